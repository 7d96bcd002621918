abbrev rm_Model_begins : Room := { frames := 2, cells := 0, slots := 0, locals := 46 }
set_option maxHeartbeats 4000000 in
set_option maxRecDepth 100000 in
theorem c_Model_begins {l : Launch} {s0 : State} {D : va_G} {ca : Nat → ClassId} (C : hv_C l s0 D (hv_tys ca)) {w : hv_W} {K : Nat → Nat} {w0 : hv_W} {A : mA} {B : mB} (hM : mK ca K w0 A B w) {σ : gS} (hRel : mRel A B σ) (hW : gW σ) (hoff : σ.off = 0)  :
    hv_Met l y_Model_begins [.code y_Model_begins b_Model_begins 1 none] rm_Model_begins (hv_Pc s0 D w [.ref (K 0)]) (hv_Q s0 D (fun v w' => v = none ∧ ∃ B', mK ca K w0 (A.sChanges (A.changes + 1)) B' w' ∧ mRel (A.sChanges (A.changes + 1)) B' (σ.sSc (σ.sc + 1))) (fun _ _ => False)) 0 0 (hv_A s0.heap.size) := by
  refine hv_enter C _ (by decide) (Nat.le_of_ble_eq_true rfl) ?_
  intro p e s m below meth c ls Q hQ hx hb hr hml hown hts hK hZ hlocks hname hout htr hP hl
  have hown : s.vm.findClass R_Model = some m.cls := hown
  have hS : va_S (hv_A s0.heap.size) s.heap s.heap [] := va_S.rf
  have hl : lv_has ls 1 [(0, .ref (K 0))] := hl
  obtain ⟨⟨r1, r2, r3, r4, r5⟩, ⟨x1, x2, x3, x4, x5⟩, r6⟩ := hRel
  have hsc9 : A.changes ≤ 249 := by rw [x4]; have := hW.hb; omega
  refine lv_aload_n hx hb d_Model_begins_0 rfl (lv_at hl 0 rfl) ?_
  have h1 : w (K 0) = some (.inr (7, [.int A.thrown, .ref (K 1), .ref (K 2), .ref (K 3), .ref (K 4), .ref (K 5), .ref (K 6), .ref (K 7), .ref (K 8), .ref (K 9), .ref (K 10), .ref (K 11), .ref (K 12), .int (nI A.tapeSize), .ref (K 13), .int A.error, .int A.off, .int A.inside, .int (nI A.changes), .int (nI A.earlier), .int (nI A.logged), .int A.over, .int (nI A.loose), .int A.written, .int (nI A.due)])) := hM.1.2 0 (by decide)
  refine va_get (D := D) (ci := 7) (v := .int (nI A.changes)) (C := R_Model) (T := F_Model) (N := 25) hx hb hts i_Model hown hK (hv_one hP h1) 0 rfl rfl 18 (by decide) (hts _ k_Model_59) (fun _ h9 => h9) rfl d_Model_begins_1 ?_
  refine gk_if_ne (x := A.changes) (tgt := 13) hx hb d_Model_begins_4 (by decide) (by omega) (fun c4 => ?_) (fun c4 => ?_)
  · refine lv_aload_n hx hb d_Model_begins_13 rfl (lv_at hl 0 rfl) ?_
    refine lv_dup hx hb d_Model_begins_14 rfl ?_
    refine va_get (D := D) (ci := 7) (v := .int (nI A.changes)) (C := R_Model) (T := F_Model) (N := 25) hx hb hts i_Model hown hK (hv_one hP h1) 0 rfl rfl 18 (by decide) (hts _ k_Model_59) (fun _ h9 => h9) rfl d_Model_begins_15 ?_
    refine lv_iconst (v := 1) hx hb d_Model_begins_18 (by decide) ?_
    refine gk_iadd (x := A.changes) (y := 1) hx hb d_Model_begins_19 ?_
    refine hv_put (D := D) (ci := 7) (v := .int (nI (A.changes + 1))) (ty := .int) (C := R_Model) (T := F_Model) (N := 25) hx hb hts i_Model t_Model t_Model_ok n_Model hown hK hP hS h1 rfl 18 (by decide) (hts _ k_Model_59) (fun _ h9 => h9) rfl (by decide +kernel) rfl rfl (Nat.le_of_ble_eq_true rfl) d_Model_begins_20 (fun H locs hP hS => ?_)
    obtain ⟨w2, ew2⟩ : ∃ z9 : hv_W, z9 = va_up w (K 0) (some (.inr (7, [.int A.thrown, .ref (K 1), .ref (K 2), .ref (K 3), .ref (K 4), .ref (K 5), .ref (K 6), .ref (K 7), .ref (K 8), .ref (K 9), .ref (K 10), .ref (K 11), .ref (K 12), .int (nI A.tapeSize), .ref (K 13), .int A.error, .int A.off, .int A.inside, .int (nI (A.changes + 1)), .int (nI A.earlier), .int (nI A.logged), .int A.over, .int (nI A.loose), .int A.written, .int (nI A.due)]))) := ⟨_, rfl⟩
    have hP : hv_P D classes s0.heap.size w2 H := by rw [ew2]; exact hP
    have hM : mK ca K w0 (A.sChanges (A.changes + 1)) B w2 := by rw [ew2]; exact hM.put 0 (by decide) rfl
    have h3 : w2 (K 0) = some (.inr (7, [.int A.thrown, .ref (K 1), .ref (K 2), .ref (K 3), .ref (K 4), .ref (K 5), .ref (K 6), .ref (K 7), .ref (K 8), .ref (K 9), .ref (K 10), .ref (K 11), .ref (K 12), .int (nI A.tapeSize), .ref (K 13), .int A.error, .int A.off, .int A.inside, .int (nI (A.changes + 1)), .int (nI A.earlier), .int (nI A.logged), .int A.over, .int (nI A.loose), .int A.written, .int (nI A.due)])) := by rw [ew2]; exact hv_up_s
    exact hv_vret hQ hx hb hr hZ hS hP hlocks d_Model_begins_23 (⟨rfl, B, hM, ⟨⟨r1, fun _ => r2 (fun z => c4 (x4.trans z)), r3, r4, r5⟩, ⟨x1, x2, x3, by show A.changes + 1 = σ.sc + 1; rw [x4], x5⟩, r6⟩⟩)
  · refine lv_aload_n hx hb d_Model_begins_7 rfl (lv_at hl 0 rfl) ?_
    refine lv_iconst (v := 0) hx hb d_Model_begins_8 (by decide) ?_
    refine lv_iconst (v := 1) hx hb d_Model_begins_9 (by decide) ?_
    refine hv_call (hv_runV (As := [.int 0, .int 1]) (rest := []) (c_Model_copy C (f := 0) (t := 1) (by decide) (by decide) (by decide) hM r5) (hv_cw C hZ kc_Model_copy kn_Model ⟨rfl, rfl, Nat.le_of_ble_eq_true rfl, Nat.le_of_ble_eq_true rfl⟩) hv_blind (hv_pre hZ hS hP) hx hml hb hown (hts _ k_Model_72) (hts _ ki_Model_copy) (hts _ ksel_Model_Model_copy) hy_Model_copy (hts _ kc_Model_copy) (va_recv hK (hv_one hP h1) (ci := 7) (q0 := 0) rfl rfl) rfl hl.1 rfl (lv_room (Nat.le_of_ble_eq_true rfl)) d_Model_begins_10 ⟨Nat.le_of_ble_eq_true rfl, Nat.le_of_ble_eq_true rfl⟩) hZ hS (fun v9 w4 H locs q5 hP hS => ?_) (fun x9 w4 H locs q5 hP hS => q5.elim)
    obtain ⟨hv9, B2, hM, hcp⟩ := q5
    subst hv9
    have hcp : mCopy B B2 0 1 := hcp
    show W _ _ _ _ _ _ _ _ _ _ _ _ _ _ _ (F0 m 13 ls [])
    refine lv_aload_n hx hb d_Model_begins_13 rfl (lv_at hl 0 rfl) ?_
    refine lv_dup hx hb d_Model_begins_14 rfl ?_
    have h6 : w4 (K 0) = some (.inr (7, [.int A.thrown, .ref (K 1), .ref (K 2), .ref (K 3), .ref (K 4), .ref (K 5), .ref (K 6), .ref (K 7), .ref (K 8), .ref (K 9), .ref (K 10), .ref (K 11), .ref (K 12), .int (nI A.tapeSize), .ref (K 13), .int A.error, .int A.off, .int A.inside, .int (nI A.changes), .int (nI A.earlier), .int (nI A.logged), .int A.over, .int (nI A.loose), .int A.written, .int (nI A.due)])) := hM.1.2 0 (by decide)
    refine va_get (D := D) (ci := 7) (v := .int (nI A.changes)) (C := R_Model) (T := F_Model) (N := 25) hx hb hts i_Model hown hK (hv_one hP h6) 0 rfl rfl 18 (by decide) (hts _ k_Model_59) (fun _ h9 => h9) rfl d_Model_begins_15 ?_
    refine lv_iconst (v := 1) hx hb d_Model_begins_18 (by decide) ?_
    refine gk_iadd (x := A.changes) (y := 1) hx hb d_Model_begins_19 ?_
    refine hv_put (D := D) (ci := 7) (v := .int (nI (A.changes + 1))) (ty := .int) (C := R_Model) (T := F_Model) (N := 25) hx hb hts i_Model t_Model t_Model_ok n_Model hown hK hP hS h6 rfl 18 (by decide) (hts _ k_Model_59) (fun _ h9 => h9) rfl (by decide +kernel) rfl rfl (Nat.le_of_ble_eq_true rfl) d_Model_begins_20 (fun H locs hP hS => ?_)
    obtain ⟨w7, ew7⟩ : ∃ z9 : hv_W, z9 = va_up w4 (K 0) (some (.inr (7, [.int A.thrown, .ref (K 1), .ref (K 2), .ref (K 3), .ref (K 4), .ref (K 5), .ref (K 6), .ref (K 7), .ref (K 8), .ref (K 9), .ref (K 10), .ref (K 11), .ref (K 12), .int (nI A.tapeSize), .ref (K 13), .int A.error, .int A.off, .int A.inside, .int (nI (A.changes + 1)), .int (nI A.earlier), .int (nI A.logged), .int A.over, .int (nI A.loose), .int A.written, .int (nI A.due)]))) := ⟨_, rfl⟩
    have hP : hv_P D classes s0.heap.size w7 H := by rw [ew7]; exact hP
    have hM : mK ca K w0 (A.sChanges (A.changes + 1)) B2 w7 := by rw [ew7]; exact hM.put 0 (by decide) rfl
    have h8 : w7 (K 0) = some (.inr (7, [.int A.thrown, .ref (K 1), .ref (K 2), .ref (K 3), .ref (K 4), .ref (K 5), .ref (K 6), .ref (K 7), .ref (K 8), .ref (K 9), .ref (K 10), .ref (K 11), .ref (K 12), .int (nI A.tapeSize), .ref (K 13), .int A.error, .int A.off, .int A.inside, .int (nI (A.changes + 1)), .int (nI A.earlier), .int (nI A.logged), .int A.over, .int (nI A.loose), .int A.written, .int (nI A.due)])) := by rw [ew7]; exact hv_up_s
    exact hv_vret hQ hx hb hr hZ hS hP hlocks d_Model_begins_23 (⟨rfl, B2, hM, ⟨⟨hcp.other r1 hW.1.1 (by decide), fun _ => by show mG B2 1 σ.stm; rw [(hW.2.2.2.2.1 hoff).2.1 (x4.symm.trans c4)]; exact hcp.to r1 hW.1.1, fun z => hcp.other (r3 z) hW.1.2.2 (by decide), hcp.other r4 hW.1.2.2 (by decide), hcp.bo r5 (by decide)⟩, ⟨x1, x2, x3, by show A.changes + 1 = σ.sc + 1; rw [x4], x5⟩, r6⟩⟩)

abbrev rm_Model_back : Room := { frames := 2, cells := 0, slots := 0, locals := 46 }
set_option maxHeartbeats 4000000 in
set_option maxRecDepth 100000 in
theorem c_Model_back {l : Launch} {s0 : State} {D : va_G} {ca : Nat → ClassId} (C : hv_C l s0 D (hv_tys ca)) {w : hv_W} {K : Nat → Nat} {w0 : hv_W} {A : mA} {B : mB} (hM : mK ca K w0 A B w) {σ : gS} (hRel : mRel A B σ) (hW : gW σ)  :
    hv_Met l y_Model_back [.code y_Model_back b_Model_back 1 none] rm_Model_back (hv_Pc s0 D w [.ref (K 0)]) (hv_Q s0 D (fun v w' => v = none ∧ mS ca K w0 A.thrown (s_undo σ) w') (fun _ _ => False)) 0 0 (hv_A s0.heap.size) := by
  refine hv_enter C _ (by decide) (Nat.le_of_ble_eq_true rfl) ?_
  intro p e s m below meth c ls Q hQ hx hb hr hml hown hts hK hZ hlocks hname hout htr hP hl
  have hown : s.vm.findClass R_Model = some m.cls := hown
  have hS : va_S (hv_A s0.heap.size) s.heap s.heap [] := va_S.rf
  have hl : lv_has ls 1 [(0, .ref (K 0))] := hl
  obtain ⟨⟨r1, r2, r3, r4, r5⟩, ⟨x1, x2, x3, x4, x5⟩, r6⟩ := id hRel
  have hsc9 : A.changes ≤ 249 := by rw [x4]; have := hW.hb; omega
  refine lv_aload_n hx hb d_Model_back_0 rfl (lv_at hl 0 rfl) ?_
  have h1 : w (K 0) = some (.inr (7, [.int A.thrown, .ref (K 1), .ref (K 2), .ref (K 3), .ref (K 4), .ref (K 5), .ref (K 6), .ref (K 7), .ref (K 8), .ref (K 9), .ref (K 10), .ref (K 11), .ref (K 12), .int (nI A.tapeSize), .ref (K 13), .int A.error, .int A.off, .int A.inside, .int (nI A.changes), .int (nI A.earlier), .int (nI A.logged), .int A.over, .int (nI A.loose), .int A.written, .int (nI A.due)])) := hM.1.2 0 (by decide)
  refine va_get (D := D) (ci := 7) (v := .int (nI A.changes)) (C := R_Model) (T := F_Model) (N := 25) hx hb hts i_Model hown hK (hv_one hP h1) 0 rfl rfl 18 (by decide) (hts _ k_Model_59) (fun _ h9 => h9) rfl d_Model_back_1 ?_
  refine gk_if_le (x := A.changes) (tgt := 13) hx hb d_Model_back_4 (by decide) (by omega) (fun c4 => ?_) (fun c4 => ?_)
  · refine lv_aload_n hx hb d_Model_back_13 rfl (lv_at hl 0 rfl) ?_
    refine hv_call (hv_runV (As := []) (rest := []) (c_Model_settle C hM) (hv_cw C hZ kc_Model_settle kn_Model ⟨rfl, rfl, Nat.le_of_ble_eq_true rfl, Nat.le_of_ble_eq_true rfl⟩) hv_blind (hv_pre hZ hS hP) hx hml hb hown (hts _ k_Model_75) (hts _ ki_Model_settle) (hts _ ksel_Model_Model_settle) hy_Model_settle (hts _ kc_Model_settle) (va_recv hK (hv_one hP h1) (ci := 7) (q0 := 0) rfl rfl) rfl hl.1 rfl (lv_room (Nat.le_of_ble_eq_true rfl)) d_Model_back_14 ⟨Nat.le_of_ble_eq_true rfl, Nat.le_of_ble_eq_true rfl⟩) hZ hS (fun v9 w2 H locs q3 hP hS => ?_) (fun x9 w2 H locs q3 hP hS => q3.elim)
    obtain ⟨hv9, g9, hM, hz9⟩ := q3
    subst hv9
    show W _ _ _ _ _ _ _ _ _ _ _ _ _ _ _ (F0 m 17 ls [])
    exact hv_vret hQ hx hb hr hZ hS hP hlocks d_Model_back_17 (⟨rfl, _, _, hM, by rw [s_undo, if_pos (x4.symm.trans c4)]; exact hRel.settle hz9, rfl⟩)
  · refine lv_aload_n hx hb d_Model_back_7 rfl (lv_at hl 0 rfl) ?_
    refine lv_iconst (v := 1) hx hb d_Model_back_8 (by decide) ?_
    refine lv_iconst (v := 0) hx hb d_Model_back_9 (by decide) ?_
    refine hv_call (hv_runV (As := [.int 1, .int 0]) (rest := []) (c_Model_copy C (f := 1) (t := 0) (by decide) (by decide) (by decide) hM r5) (hv_cw C hZ kc_Model_copy kn_Model ⟨rfl, rfl, Nat.le_of_ble_eq_true rfl, Nat.le_of_ble_eq_true rfl⟩) hv_blind (hv_pre hZ hS hP) hx hml hb hown (hts _ k_Model_72) (hts _ ki_Model_copy) (hts _ ksel_Model_Model_copy) hy_Model_copy (hts _ kc_Model_copy) (va_recv hK (hv_one hP h1) (ci := 7) (q0 := 0) rfl rfl) rfl hl.1 rfl (lv_room (Nat.le_of_ble_eq_true rfl)) d_Model_back_10 ⟨Nat.le_of_ble_eq_true rfl, Nat.le_of_ble_eq_true rfl⟩) hZ hS (fun v9 w4 H locs q5 hP hS => ?_) (fun x9 w4 H locs q5 hP hS => q5.elim)
    obtain ⟨hv9, B2, hM, hcp⟩ := q5
    subst hv9
    have hcp : mCopy B B2 1 0 := hcp
    show W _ _ _ _ _ _ _ _ _ _ _ _ _ _ _ (F0 m 13 ls [])
    have hRel : mRel A B2 (σ.sNow σ.stm) := ⟨⟨hcp.to (r2 (fun z => c4 (x4.trans z))) hW.1.2.1, fun z => hcp.other (r2 z) hW.1.2.1 (by decide), fun z => hcp.other (r3 z) hW.1.2.2 (by decide), hcp.other r4 hW.1.2.2 (by decide), hcp.bo r5 (by decide)⟩, ⟨x1, x2, x3, x4, x5⟩, r6⟩
    refine lv_aload_n hx hb d_Model_back_13 rfl (lv_at hl 0 rfl) ?_
    have h6 : w4 (K 0) = some (.inr (7, [.int A.thrown, .ref (K 1), .ref (K 2), .ref (K 3), .ref (K 4), .ref (K 5), .ref (K 6), .ref (K 7), .ref (K 8), .ref (K 9), .ref (K 10), .ref (K 11), .ref (K 12), .int (nI A.tapeSize), .ref (K 13), .int A.error, .int A.off, .int A.inside, .int (nI A.changes), .int (nI A.earlier), .int (nI A.logged), .int A.over, .int (nI A.loose), .int A.written, .int (nI A.due)])) := hM.1.2 0 (by decide)
    refine hv_call (hv_runV (As := []) (rest := []) (c_Model_settle C hM) (hv_cw C hZ kc_Model_settle kn_Model ⟨rfl, rfl, Nat.le_of_ble_eq_true rfl, Nat.le_of_ble_eq_true rfl⟩) hv_blind (hv_pre hZ hS hP) hx hml hb hown (hts _ k_Model_75) (hts _ ki_Model_settle) (hts _ ksel_Model_Model_settle) hy_Model_settle (hts _ kc_Model_settle) (va_recv hK (hv_one hP h6) (ci := 7) (q0 := 0) rfl rfl) rfl hl.1 rfl (lv_room (Nat.le_of_ble_eq_true rfl)) d_Model_back_14 ⟨Nat.le_of_ble_eq_true rfl, Nat.le_of_ble_eq_true rfl⟩) hZ hS (fun v9 w7 H locs q8 hP hS => ?_) (fun x9 w7 H locs q8 hP hS => q8.elim)
    obtain ⟨hv9, g9, hM, hz9⟩ := q8
    subst hv9
    show W _ _ _ _ _ _ _ _ _ _ _ _ _ _ _ (F0 m 17 ls [])
    exact hv_vret hQ hx hb hr hZ hS hP hlocks d_Model_back_17 (⟨rfl, _, _, hM, by rw [s_undo, if_neg (fun z => c4 (x4.trans z))]; exact hRel.settle hz9, rfl⟩)

abbrev rm_Model_write : Room := { frames := 1, cells := 0, slots := 0, locals := 21 }
set_option maxHeartbeats 4000000 in
set_option maxRecDepth 100000 in
theorem c_Model_write {l : Launch} {s0 : State} {D : va_G} {ca : Nat → ClassId} (C : hv_C l s0 D (hv_tys ca)) {w : hv_W} {K : Nat → Nat} {w0 : hv_W} {A : mA} {B : mB} (hM : mK ca K w0 A B w) {σ : gS} (hRel : mRel A B σ) (hd0 : σ.due ≤ 2000) (hW : w_G σ.kept)  :
    hv_Met l y_Model_write [.code y_Model_write b_Model_write 1 (some .boolean)] rm_Model_write (hv_Pc s0 D w [.ref (K 0)]) (hv_Q s0 D (fun v w' => (σ.due = 1 ∧ v = some (.int 0) ∧ mS ca K w0 A.thrown (s_off (σ.sDue 0)) w') ∨ (¬ σ.due = 1 ∧ v = some (.int 1) ∧ ∃ A', mK ca K w0 A' B w' ∧ mRel A' B ((σ.sDue (σ.due - 1)).sWr (σ.wr + 1)) ∧ A'.thrown = A.thrown)) (fun _ _ => False)) 0 0 (hv_A s0.heap.size) := by
  refine hv_enter C _ (by decide) (Nat.le_of_ble_eq_true rfl) ?_
  intro p e s m below meth c ls Q hQ hx hb hr hml hown hts hK hZ hlocks hname hout htr hP hl
  have hown : s.vm.findClass R_Model = some m.cls := hown
  have hS : va_S (hv_A s0.heap.size) s.heap s.heap [] := va_S.rf
  have hl : lv_has ls 1 [(0, .ref (K 0))] := hl
  have hdu : A.due = σ.due := hRel.2.2.1.2.2.2.2
  have hdl : A.due ≤ 2000 := by rw [hdu]; exact hd0
  refine lv_aload_n hx hb d_Model_write_0 rfl (lv_at hl 0 rfl) ?_
  have h1 : w (K 0) = some (.inr (7, [.int A.thrown, .ref (K 1), .ref (K 2), .ref (K 3), .ref (K 4), .ref (K 5), .ref (K 6), .ref (K 7), .ref (K 8), .ref (K 9), .ref (K 10), .ref (K 11), .ref (K 12), .int (nI A.tapeSize), .ref (K 13), .int A.error, .int A.off, .int A.inside, .int (nI A.changes), .int (nI A.earlier), .int (nI A.logged), .int A.over, .int (nI A.loose), .int A.written, .int (nI A.due)])) := hM.1.2 0 (by decide)
  refine va_get (D := D) (ci := 7) (v := .int (nI A.due)) (C := R_Model) (T := F_Model) (N := 25) hx hb hts i_Model hown hK (hv_one hP h1) 0 rfl rfl 24 (by decide) (hts _ k_Model_78) (fun _ h9 => h9) rfl d_Model_write_1 ?_
  refine lv_iconst (v := 1) hx hb d_Model_write_4 (by decide) ?_
  refine gk_icmp_ne (x := A.due) (y := 1) (tgt := 38) hx hb d_Model_write_5 (by decide) (by omega) (by omega) (fun c5 => ?_) (fun c5 => ?_)
  · refine lv_aload_n hx hb d_Model_write_38 rfl (lv_at hl 0 rfl) ?_
    refine lv_dup hx hb d_Model_write_39 rfl ?_
    refine va_get (D := D) (ci := 7) (v := .int (nI A.due)) (C := R_Model) (T := F_Model) (N := 25) hx hb hts i_Model hown hK (hv_one hP h1) 0 rfl rfl 24 (by decide) (hts _ k_Model_78) (fun _ h9 => h9) rfl d_Model_write_40 ?_
    refine lv_aload_n hx hb d_Model_write_43 rfl (lv_at hl 0 rfl) ?_
    refine va_get (D := D) (ci := 7) (v := .int (nI A.due)) (C := R_Model) (T := F_Model) (N := 25) hx hb hts i_Model hown hK (hv_one hP h1) 0 rfl rfl 24 (by decide) (hts _ k_Model_78) (fun _ h9 => h9) rfl d_Model_write_44 ?_
    refine gk_if_le (x := A.due) (tgt := 54) hx hb d_Model_write_47 (by decide) (by omega) (fun c47 => ?_) (fun c47 => ?_)
    · refine lv_iconst (v := 0) hx hb d_Model_write_54 (by decide) ?_
      refine gk_isub (x := A.due) (y := 0) hx hb d_Model_write_55 (by omega) ?_
      refine hv_put (D := D) (ci := 7) (v := .int (nI (A.due - 0))) (ty := .int) (C := R_Model) (T := F_Model) (N := 25) hx hb hts i_Model t_Model t_Model_ok n_Model hown hK hP hS h1 rfl 24 (by decide) (hts _ k_Model_78) (fun _ h9 => h9) rfl (by decide +kernel) rfl rfl (Nat.le_of_ble_eq_true rfl) d_Model_write_56 (fun H locs hP hS => ?_)
      obtain ⟨w2, ew2⟩ : ∃ z9 : hv_W, z9 = va_up w (K 0) (some (.inr (7, [.int A.thrown, .ref (K 1), .ref (K 2), .ref (K 3), .ref (K 4), .ref (K 5), .ref (K 6), .ref (K 7), .ref (K 8), .ref (K 9), .ref (K 10), .ref (K 11), .ref (K 12), .int (nI A.tapeSize), .ref (K 13), .int A.error, .int A.off, .int A.inside, .int (nI A.changes), .int (nI A.earlier), .int (nI A.logged), .int A.over, .int (nI A.loose), .int A.written, .int (nI (A.due - 0))]))) := ⟨_, rfl⟩
      have hP : hv_P D classes s0.heap.size w2 H := by rw [ew2]; exact hP
      have hM : mK ca K w0 (A.sDue (A.due - 0)) B w2 := by rw [ew2]; exact hM.put 0 (by decide) rfl
      have h3 : w2 (K 0) = some (.inr (7, [.int A.thrown, .ref (K 1), .ref (K 2), .ref (K 3), .ref (K 4), .ref (K 5), .ref (K 6), .ref (K 7), .ref (K 8), .ref (K 9), .ref (K 10), .ref (K 11), .ref (K 12), .int (nI A.tapeSize), .ref (K 13), .int A.error, .int A.off, .int A.inside, .int (nI A.changes), .int (nI A.earlier), .int (nI A.logged), .int A.over, .int (nI A.loose), .int A.written, .int (nI (A.due - 0))])) := by rw [ew2]; exact hv_up_s
      refine lv_aload_n hx hb d_Model_write_59 rfl (lv_at hl 0 rfl) ?_
      refine lv_dup hx hb d_Model_write_60 rfl ?_
      refine va_get (D := D) (ci := 7) (v := .int A.written) (C := R_Model) (T := F_Model) (N := 25) hx hb hts i_Model hown hK (hv_one hP h3) 0 rfl rfl 23 (by decide) (hts _ k_Model_87) (fun _ h9 => h9) rfl d_Model_write_61 ?_
      refine lv_iconst (v := 1) hx hb d_Model_write_64 (by decide) ?_
      refine lv_iadd hx hb d_Model_write_65 ?_
      refine hv_put (D := D) (ci := 7) (v := .int (A.written + 1)) (ty := .int) (C := R_Model) (T := F_Model) (N := 25) hx hb hts i_Model t_Model t_Model_ok n_Model hown hK hP hS h3 rfl 23 (by decide) (hts _ k_Model_87) (fun _ h9 => h9) rfl (by decide +kernel) rfl rfl (Nat.le_of_ble_eq_true rfl) d_Model_write_66 (fun H locs hP hS => ?_)
      obtain ⟨w4, ew4⟩ : ∃ z9 : hv_W, z9 = va_up w2 (K 0) (some (.inr (7, [.int A.thrown, .ref (K 1), .ref (K 2), .ref (K 3), .ref (K 4), .ref (K 5), .ref (K 6), .ref (K 7), .ref (K 8), .ref (K 9), .ref (K 10), .ref (K 11), .ref (K 12), .int (nI A.tapeSize), .ref (K 13), .int A.error, .int A.off, .int A.inside, .int (nI A.changes), .int (nI A.earlier), .int (nI A.logged), .int A.over, .int (nI A.loose), .int (A.written + 1), .int (nI (A.due - 0))]))) := ⟨_, rfl⟩
      have hP : hv_P D classes s0.heap.size w4 H := by rw [ew4]; exact hP
      have hM : mK ca K w0 ((A.sWritten (A.written + 1)).sDue (A.due - 0)) B w4 := by rw [ew4]; exact hM.put 0 (by decide) rfl
      have h5 : w4 (K 0) = some (.inr (7, [.int A.thrown, .ref (K 1), .ref (K 2), .ref (K 3), .ref (K 4), .ref (K 5), .ref (K 6), .ref (K 7), .ref (K 8), .ref (K 9), .ref (K 10), .ref (K 11), .ref (K 12), .int (nI A.tapeSize), .ref (K 13), .int A.error, .int A.off, .int A.inside, .int (nI A.changes), .int (nI A.earlier), .int (nI A.logged), .int A.over, .int (nI A.loose), .int (A.written + 1), .int (nI (A.due - 0))])) := by rw [ew4]; exact hv_up_s
      refine lv_iconst (v := 1) hx hb d_Model_write_69 (by decide) ?_
      exact hv_zret (v := 1) hQ hx hb hr (by decide) hZ hS hP hlocks d_Model_write_70 (Or.inr ⟨fun z => c5 (hdu.trans z), rfl, _, hM, ⟨hRel.1, hRel.2.1, ⟨hRel.2.2.1.1, hRel.2.2.1.2.1, hRel.2.2.1.2.2.1, by show A.written + 1 = σ.wr + 1; rw [hRel.2.2.1.2.2.2.1], by show A.due - 0 = σ.due - 1; omega⟩, hRel.2.2.2⟩, rfl⟩)
    · refine lv_iconst (v := 1) hx hb d_Model_write_50 (by decide) ?_
      refine lv_goto (tgt := 55) hx hb d_Model_write_51 (by decide) ?_
      refine gk_isub (x := A.due) (y := 1) hx hb d_Model_write_55 (by omega) ?_
      refine hv_put (D := D) (ci := 7) (v := .int (nI (A.due - 1))) (ty := .int) (C := R_Model) (T := F_Model) (N := 25) hx hb hts i_Model t_Model t_Model_ok n_Model hown hK hP hS h1 rfl 24 (by decide) (hts _ k_Model_78) (fun _ h9 => h9) rfl (by decide +kernel) rfl rfl (Nat.le_of_ble_eq_true rfl) d_Model_write_56 (fun H locs hP hS => ?_)
      obtain ⟨w6, ew6⟩ : ∃ z9 : hv_W, z9 = va_up w (K 0) (some (.inr (7, [.int A.thrown, .ref (K 1), .ref (K 2), .ref (K 3), .ref (K 4), .ref (K 5), .ref (K 6), .ref (K 7), .ref (K 8), .ref (K 9), .ref (K 10), .ref (K 11), .ref (K 12), .int (nI A.tapeSize), .ref (K 13), .int A.error, .int A.off, .int A.inside, .int (nI A.changes), .int (nI A.earlier), .int (nI A.logged), .int A.over, .int (nI A.loose), .int A.written, .int (nI (A.due - 1))]))) := ⟨_, rfl⟩
      have hP : hv_P D classes s0.heap.size w6 H := by rw [ew6]; exact hP
      have hM : mK ca K w0 (A.sDue (A.due - 1)) B w6 := by rw [ew6]; exact hM.put 0 (by decide) rfl
      have h7 : w6 (K 0) = some (.inr (7, [.int A.thrown, .ref (K 1), .ref (K 2), .ref (K 3), .ref (K 4), .ref (K 5), .ref (K 6), .ref (K 7), .ref (K 8), .ref (K 9), .ref (K 10), .ref (K 11), .ref (K 12), .int (nI A.tapeSize), .ref (K 13), .int A.error, .int A.off, .int A.inside, .int (nI A.changes), .int (nI A.earlier), .int (nI A.logged), .int A.over, .int (nI A.loose), .int A.written, .int (nI (A.due - 1))])) := by rw [ew6]; exact hv_up_s
      refine lv_aload_n hx hb d_Model_write_59 rfl (lv_at hl 0 rfl) ?_
      refine lv_dup hx hb d_Model_write_60 rfl ?_
      refine va_get (D := D) (ci := 7) (v := .int A.written) (C := R_Model) (T := F_Model) (N := 25) hx hb hts i_Model hown hK (hv_one hP h7) 0 rfl rfl 23 (by decide) (hts _ k_Model_87) (fun _ h9 => h9) rfl d_Model_write_61 ?_
      refine lv_iconst (v := 1) hx hb d_Model_write_64 (by decide) ?_
      refine lv_iadd hx hb d_Model_write_65 ?_
      refine hv_put (D := D) (ci := 7) (v := .int (A.written + 1)) (ty := .int) (C := R_Model) (T := F_Model) (N := 25) hx hb hts i_Model t_Model t_Model_ok n_Model hown hK hP hS h7 rfl 23 (by decide) (hts _ k_Model_87) (fun _ h9 => h9) rfl (by decide +kernel) rfl rfl (Nat.le_of_ble_eq_true rfl) d_Model_write_66 (fun H locs hP hS => ?_)
      obtain ⟨w8, ew8⟩ : ∃ z9 : hv_W, z9 = va_up w6 (K 0) (some (.inr (7, [.int A.thrown, .ref (K 1), .ref (K 2), .ref (K 3), .ref (K 4), .ref (K 5), .ref (K 6), .ref (K 7), .ref (K 8), .ref (K 9), .ref (K 10), .ref (K 11), .ref (K 12), .int (nI A.tapeSize), .ref (K 13), .int A.error, .int A.off, .int A.inside, .int (nI A.changes), .int (nI A.earlier), .int (nI A.logged), .int A.over, .int (nI A.loose), .int (A.written + 1), .int (nI (A.due - 1))]))) := ⟨_, rfl⟩
      have hP : hv_P D classes s0.heap.size w8 H := by rw [ew8]; exact hP
      have hM : mK ca K w0 ((A.sWritten (A.written + 1)).sDue (A.due - 1)) B w8 := by rw [ew8]; exact hM.put 0 (by decide) rfl
      have h9 : w8 (K 0) = some (.inr (7, [.int A.thrown, .ref (K 1), .ref (K 2), .ref (K 3), .ref (K 4), .ref (K 5), .ref (K 6), .ref (K 7), .ref (K 8), .ref (K 9), .ref (K 10), .ref (K 11), .ref (K 12), .int (nI A.tapeSize), .ref (K 13), .int A.error, .int A.off, .int A.inside, .int (nI A.changes), .int (nI A.earlier), .int (nI A.logged), .int A.over, .int (nI A.loose), .int (A.written + 1), .int (nI (A.due - 1))])) := by rw [ew8]; exact hv_up_s
      refine lv_iconst (v := 1) hx hb d_Model_write_69 (by decide) ?_
      exact hv_zret (v := 1) hQ hx hb hr (by decide) hZ hS hP hlocks d_Model_write_70 (Or.inr ⟨fun z => c5 (hdu.trans z), rfl, _, hM, ⟨hRel.1, hRel.2.1, ⟨hRel.2.2.1.1, hRel.2.2.1.2.1, hRel.2.2.1.2.2.1, by show A.written + 1 = σ.wr + 1; rw [hRel.2.2.1.2.2.2.1], by show A.due - 1 = σ.due - 1; omega⟩, hRel.2.2.2⟩, rfl⟩)
  · refine lv_aload_n hx hb d_Model_write_8 rfl (lv_at hl 0 rfl) ?_
    refine lv_iconst (v := 1) hx hb d_Model_write_9 (by decide) ?_
    refine hv_put (D := D) (ci := 7) (v := .int 1) (ty := .boolean) (C := R_Model) (T := F_Model) (N := 25) hx hb hts i_Model t_Model t_Model_ok n_Model hown hK hP hS h1 rfl 16 (by decide) (hts _ k_Model_62) (fun _ h9 => h9) rfl (by decide +kernel) (by decide +kernel) (by decide +kernel) (Nat.le_of_ble_eq_true rfl) d_Model_write_10 (fun H locs hP hS => ?_)
    obtain ⟨w10, ew10⟩ : ∃ z9 : hv_W, z9 = va_up w (K 0) (some (.inr (7, [.int A.thrown, .ref (K 1), .ref (K 2), .ref (K 3), .ref (K 4), .ref (K 5), .ref (K 6), .ref (K 7), .ref (K 8), .ref (K 9), .ref (K 10), .ref (K 11), .ref (K 12), .int (nI A.tapeSize), .ref (K 13), .int A.error, .int 1, .int A.inside, .int (nI A.changes), .int (nI A.earlier), .int (nI A.logged), .int A.over, .int (nI A.loose), .int A.written, .int (nI A.due)]))) := ⟨_, rfl⟩
    have hP : hv_P D classes s0.heap.size w10 H := by rw [ew10]; exact hP
    have hM : mK ca K w0 (A.sOff 1) B w10 := by rw [ew10]; exact hM.put 0 (by decide) rfl
    have h11 : w10 (K 0) = some (.inr (7, [.int A.thrown, .ref (K 1), .ref (K 2), .ref (K 3), .ref (K 4), .ref (K 5), .ref (K 6), .ref (K 7), .ref (K 8), .ref (K 9), .ref (K 10), .ref (K 11), .ref (K 12), .int (nI A.tapeSize), .ref (K 13), .int A.error, .int 1, .int A.inside, .int (nI A.changes), .int (nI A.earlier), .int (nI A.logged), .int A.over, .int (nI A.loose), .int A.written, .int (nI A.due)])) := by rw [ew10]; exact hv_up_s
    refine lv_aload_n hx hb d_Model_write_13 rfl (lv_at hl 0 rfl) ?_
    refine lv_iconst (v := 0) hx hb d_Model_write_14 (by decide) ?_
    refine hv_put (D := D) (ci := 7) (v := .int 0) (ty := .int) (C := R_Model) (T := F_Model) (N := 25) hx hb hts i_Model t_Model t_Model_ok n_Model hown hK hP hS h11 rfl 24 (by decide) (hts _ k_Model_78) (fun _ h9 => h9) rfl (by decide +kernel) rfl rfl (Nat.le_of_ble_eq_true rfl) d_Model_write_15 (fun H locs hP hS => ?_)
    obtain ⟨w12, ew12⟩ : ∃ z9 : hv_W, z9 = va_up w10 (K 0) (some (.inr (7, [.int A.thrown, .ref (K 1), .ref (K 2), .ref (K 3), .ref (K 4), .ref (K 5), .ref (K 6), .ref (K 7), .ref (K 8), .ref (K 9), .ref (K 10), .ref (K 11), .ref (K 12), .int (nI A.tapeSize), .ref (K 13), .int A.error, .int 1, .int A.inside, .int (nI A.changes), .int (nI A.earlier), .int (nI A.logged), .int A.over, .int (nI A.loose), .int A.written, .int 0]))) := ⟨_, rfl⟩
    have hP : hv_P D classes s0.heap.size w12 H := by rw [ew12]; exact hP
    have hM : mK ca K w0 ((A.sOff 1).sDue 0) B w12 := by rw [ew12]; exact hM.put 0 (by decide) rfl
    have h13 : w12 (K 0) = some (.inr (7, [.int A.thrown, .ref (K 1), .ref (K 2), .ref (K 3), .ref (K 4), .ref (K 5), .ref (K 6), .ref (K 7), .ref (K 8), .ref (K 9), .ref (K 10), .ref (K 11), .ref (K 12), .int (nI A.tapeSize), .ref (K 13), .int A.error, .int 1, .int A.inside, .int (nI A.changes), .int (nI A.earlier), .int (nI A.logged), .int A.over, .int (nI A.loose), .int A.written, .int 0])) := by rw [ew12]; exact hv_up_s
    refine lv_aload_n hx hb d_Model_write_18 rfl (lv_at hl 0 rfl) ?_
    refine lv_iconst (v := 0) hx hb d_Model_write_19 (by decide) ?_
    refine hv_put (D := D) (ci := 7) (v := .int 0) (ty := .boolean) (C := R_Model) (T := F_Model) (N := 25) hx hb hts i_Model t_Model t_Model_ok n_Model hown hK hP hS h13 rfl 17 (by decide) (hts _ k_Model_81) (fun _ h9 => h9) rfl (by decide +kernel) (by decide +kernel) (by decide +kernel) (Nat.le_of_ble_eq_true rfl) d_Model_write_20 (fun H locs hP hS => ?_)
    obtain ⟨w14, ew14⟩ : ∃ z9 : hv_W, z9 = va_up w12 (K 0) (some (.inr (7, [.int A.thrown, .ref (K 1), .ref (K 2), .ref (K 3), .ref (K 4), .ref (K 5), .ref (K 6), .ref (K 7), .ref (K 8), .ref (K 9), .ref (K 10), .ref (K 11), .ref (K 12), .int (nI A.tapeSize), .ref (K 13), .int A.error, .int 1, .int 0, .int (nI A.changes), .int (nI A.earlier), .int (nI A.logged), .int A.over, .int (nI A.loose), .int A.written, .int 0]))) := ⟨_, rfl⟩
    have hP : hv_P D classes s0.heap.size w14 H := by rw [ew14]; exact hP
    have hM : mK ca K w0 (((A.sOff 1).sInside 0).sDue 0) B w14 := by rw [ew14]; exact hM.put 0 (by decide) rfl
    have h15 : w14 (K 0) = some (.inr (7, [.int A.thrown, .ref (K 1), .ref (K 2), .ref (K 3), .ref (K 4), .ref (K 5), .ref (K 6), .ref (K 7), .ref (K 8), .ref (K 9), .ref (K 10), .ref (K 11), .ref (K 12), .int (nI A.tapeSize), .ref (K 13), .int A.error, .int 1, .int 0, .int (nI A.changes), .int (nI A.earlier), .int (nI A.logged), .int A.over, .int (nI A.loose), .int A.written, .int 0])) := by rw [ew14]; exact hv_up_s
    refine lv_aload_n hx hb d_Model_write_23 rfl (lv_at hl 0 rfl) ?_
    refine lv_iconst (v := 0) hx hb d_Model_write_24 (by decide) ?_
    refine hv_put (D := D) (ci := 7) (v := .int 0) (ty := .int) (C := R_Model) (T := F_Model) (N := 25) hx hb hts i_Model t_Model t_Model_ok n_Model hown hK hP hS h15 rfl 19 (by decide) (hts _ k_Model_66) (fun _ h9 => h9) rfl (by decide +kernel) rfl rfl (Nat.le_of_ble_eq_true rfl) d_Model_write_25 (fun H locs hP hS => ?_)
    obtain ⟨w16, ew16⟩ : ∃ z9 : hv_W, z9 = va_up w14 (K 0) (some (.inr (7, [.int A.thrown, .ref (K 1), .ref (K 2), .ref (K 3), .ref (K 4), .ref (K 5), .ref (K 6), .ref (K 7), .ref (K 8), .ref (K 9), .ref (K 10), .ref (K 11), .ref (K 12), .int (nI A.tapeSize), .ref (K 13), .int A.error, .int 1, .int 0, .int (nI A.changes), .int 0, .int (nI A.logged), .int A.over, .int (nI A.loose), .int A.written, .int 0]))) := ⟨_, rfl⟩
    have hP : hv_P D classes s0.heap.size w16 H := by rw [ew16]; exact hP
    have hM : mK ca K w0 ((((A.sOff 1).sInside 0).sEarlier 0).sDue 0) B w16 := by rw [ew16]; exact hM.put 0 (by decide) rfl
    have h17 : w16 (K 0) = some (.inr (7, [.int A.thrown, .ref (K 1), .ref (K 2), .ref (K 3), .ref (K 4), .ref (K 5), .ref (K 6), .ref (K 7), .ref (K 8), .ref (K 9), .ref (K 10), .ref (K 11), .ref (K 12), .int (nI A.tapeSize), .ref (K 13), .int A.error, .int 1, .int 0, .int (nI A.changes), .int 0, .int (nI A.logged), .int A.over, .int (nI A.loose), .int A.written, .int 0])) := by rw [ew16]; exact hv_up_s
    refine lv_aload_n hx hb d_Model_write_28 rfl (lv_at hl 0 rfl) ?_
    refine hv_call (hv_runV (As := []) (rest := []) (c_Model_settle C hM) (hv_cw C hZ kc_Model_settle kn_Model ⟨rfl, rfl, Nat.le_of_ble_eq_true rfl, Nat.le_of_ble_eq_true rfl⟩) hv_blind (hv_pre hZ hS hP) hx hml hb hown (hts _ k_Model_75) (hts _ ki_Model_settle) (hts _ ksel_Model_Model_settle) hy_Model_settle (hts _ kc_Model_settle) (va_recv hK (hv_one hP h17) (ci := 7) (q0 := 0) rfl rfl) rfl hl.1 rfl (lv_room (Nat.le_of_ble_eq_true rfl)) d_Model_write_29 ⟨Nat.le_of_ble_eq_true rfl, Nat.le_of_ble_eq_true rfl⟩) hZ hS (fun v9 w18 H locs q19 hP hS => ?_) (fun x9 w18 H locs q19 hP hS => q19.elim)
    obtain ⟨hv9, g9, hM, hz9⟩ := q19
    subst hv9
    show W _ _ _ _ _ _ _ _ _ _ _ _ _ _ _ (F0 m 32 ls [])
    refine lv_aload_n hx hb d_Model_write_32 rfl (lv_at hl 0 rfl) ?_
    have h20 : w18 (K 0) = some (.inr (7, [.int A.thrown, .ref (K 1), .ref (K 2), .ref (K 3), .ref (K 4), .ref (K 5), .ref (K 6), .ref (K 7), .ref (K 8), .ref (K 9), .ref (K 10), .ref (K 11), .ref (K 12), .int (nI A.tapeSize), .ref (K 13), .int A.error, .int 1, .int 0, .int (nI 0), .int (nI 0), .int (nI A.logged), .int A.over, .int (nI A.loose), .int A.written, .int (nI 0)])) := hM.1.2 0 (by decide)
    refine hv_call (hv_runV (As := []) (rest := []) (c_Model_erase C hM) (hv_cw C hZ kc_Model_erase kn_Model ⟨rfl, rfl, Nat.le_of_ble_eq_true rfl, Nat.le_of_ble_eq_true rfl⟩) hv_blind (hv_pre hZ hS hP) hx hml hb hown (hts _ k_Model_84) (hts _ ki_Model_erase) (hts _ ksel_Model_Model_erase) hy_Model_erase (hts _ kc_Model_erase) (va_recv hK (hv_one hP h20) (ci := 7) (q0 := 0) rfl rfl) rfl hl.1 rfl (lv_room (Nat.le_of_ble_eq_true rfl)) d_Model_write_33 ⟨Nat.le_of_ble_eq_true rfl, Nat.le_of_ble_eq_true rfl⟩) hZ hS (fun v9 w21 H locs q22 hP hS => ?_) (fun x9 w21 H locs q22 hP hS => q22.elim)
    obtain ⟨hv9, g8, hM, hz8, ho8⟩ := q22
    subst hv9
    show W _ _ _ _ _ _ _ _ _ _ _ _ _ _ _ (F0 m 36 ls [])
    refine lv_iconst (v := 0) hx hb d_Model_write_36 (by decide) ?_
    exact hv_zret (v := 0) hQ hx hb hr (by decide) hZ hS hP hlocks d_Model_write_37 (Or.inl ⟨hdu.symm.trans c5, rfl, _, _, hM, hRel.erase hW hz8 hz9 ho8, rfl⟩)

abbrev rm_Model_fits : Room := { frames := 0, cells := 0, slots := 0, locals := 0 }
set_option maxHeartbeats 4000000 in
set_option maxRecDepth 100000 in
theorem c_Model_fits {l : Launch} {s0 : State} {D : va_G} {ca : Nat → ClassId} (C : hv_C l s0 D (hv_tys ca)) {w : hv_W} {K : Nat → Nat} {w0 : hv_W} {A : mA} {B : mB} {k : Nat} (hM : mK ca K w0 A B w) (hk : k ≤ 249) (hen : A.logged ≤ 250)  :
    hv_Met l y_Model_fits [.code y_Model_fits b_Model_fits 2 (some .boolean)] rm_Model_fits (hv_Pc s0 D w [.ref (K 0), .int (nI k)]) (hv_Q s0 D (fun v w' => v = some (.int (if A.logged + k + 1 ≤ 250 then 1 else 0)) ∧ w' = w) (fun _ _ => False)) 0 0 (hv_A s0.heap.size) := by
  refine hv_enter C _ (by decide) (Nat.le_of_ble_eq_true rfl) ?_
  intro p e s m below meth c ls Q hQ hx hb hr hml hown hts hK hZ hlocks hname hout htr hP hl
  have hown : s.vm.findClass R_Model = some m.cls := hown
  have hS : va_S (hv_A s0.heap.size) s.heap s.heap [] := va_S.rf
  have hl : lv_has ls 2 [(0, .ref (K 0)), (1, .int (nI k))] := hl
  refine lv_aload_n hx hb d_Model_fits_0 rfl (lv_at hl 0 rfl) ?_
  have h1 : w (K 0) = some (.inr (7, [.int A.thrown, .ref (K 1), .ref (K 2), .ref (K 3), .ref (K 4), .ref (K 5), .ref (K 6), .ref (K 7), .ref (K 8), .ref (K 9), .ref (K 10), .ref (K 11), .ref (K 12), .int (nI A.tapeSize), .ref (K 13), .int A.error, .int A.off, .int A.inside, .int (nI A.changes), .int (nI A.earlier), .int (nI A.logged), .int A.over, .int (nI A.loose), .int A.written, .int (nI A.due)])) := hM.1.2 0 (by decide)
  refine va_get (D := D) (ci := 7) (v := .int (nI A.logged)) (C := R_Model) (T := F_Model) (N := 25) hx hb hts i_Model hown hK (hv_one hP h1) 0 rfl rfl 20 (by decide) (hts _ k_Model_97) (fun _ h9 => h9) rfl d_Model_fits_1 ?_
  refine lv_iload_n hx hb d_Model_fits_4 rfl (lv_at hl 1 rfl) ?_
  refine gk_iadd (x := A.logged) (y := k) hx hb d_Model_fits_5 ?_
  refine lv_iconst (v := 1) hx hb d_Model_fits_6 (by decide) ?_
  refine gk_iadd (x := A.logged + k) (y := 1) hx hb d_Model_fits_7 ?_
  refine lv_sipush (v := 250) hx hb d_Model_fits_8 (by decide) ?_
  refine gk_icmp_gt (x := (A.logged + k) + 1) (y := 250) (tgt := 18) hx hb d_Model_fits_11 (by decide) (by omega) (by omega) (fun c11 => ?_) (fun c11 => ?_)
  · refine lv_iconst (v := 0) hx hb d_Model_fits_18 (by decide) ?_
    exact hv_zret (v := 0) hQ hx hb hr (by decide) hZ hS hP hlocks d_Model_fits_19 (⟨by rw [if_neg (by omega)], rfl⟩)
  · refine lv_iconst (v := 1) hx hb d_Model_fits_14 (by decide) ?_
    refine lv_goto (tgt := 19) hx hb d_Model_fits_15 (by decide) ?_
    exact hv_zret (v := 1) hQ hx hb hr (by decide) hZ hS hP hlocks d_Model_fits_19 (⟨by rw [if_pos c11], rfl⟩)

abbrev rm_Model_log : Room := { frames := 2, cells := 0, slots := 0, locals := 46 }
set_option maxHeartbeats 4000000 in
set_option maxRecDepth 100000 in
theorem c_Model_log {l : Launch} {s0 : State} {D : va_G} {ca : Nat → ClassId} (C : hv_C l s0 D (hv_tys ca)) {w : hv_W} {K : Nat → Nat} {w0 : hv_W} {A : mA} {B : mB} {k : Nat} (hM : mK ca K w0 A B w) {σ : gS} (hRel : mRel A B σ) (hW : gW σ) (hlo : σ.lo = 0) (hk0 : k ≤ 249)  :
    hv_Met l y_Model_log [.code y_Model_log b_Model_log 3 (some .boolean)] rm_Model_log (hv_Pc s0 D w [.ref (K 0), .int (nI k)]) (hv_Q s0 D (fun v w' => (s_cut σ (k + 1) ∧ v = some (.int 0) ∧ mS ca K w0 A.thrown (s_keepF σ) w') ∨ (¬ s_cut σ (k + 1) ∧ v = some (.int 1) ∧ ∃ A' B', mK ca K w0 A' B' w' ∧ mRel (A'.sInside 0) B' ((s_keepO σ k).sIns 0) ∧ A'.thrown = A.thrown ∧ A'.inside = σ.ins)) (fun _ _ => False)) 0 0 (hv_A s0.heap.size) := by
  refine hv_enter C _ (by decide) (Nat.le_of_ble_eq_true rfl) ?_
  intro p e s m below meth c ls Q hQ hx hb hr hml hown hts hK hZ hlocks hname hout htr hP hl
  have hown : s.vm.findClass R_Model = some m.cls := hown
  have hS : va_S (hv_A s0.heap.size) s.heap s.heap [] := va_S.rf
  have hl : lv_has ls 3 [(0, .ref (K 0)), (1, .int (nI k))] := hl
  have hd0 : σ.due ≤ 2000 := hW.2.2.1.2.2.2
  have hen : σ.en ≤ 250 := hW.2.2.1.2.1
  refine lv_iconst (v := 0) hx hb d_Model_log_0 (by decide) ?_
  refine lv_istore_n (lv' := [(2, .int 0), (0, .ref (K 0)), (1, .int (nI k))]) hx hb d_Model_log_1 rfl hl (by decide) rfl (fun ls hl => ?_)
  have lp : ∀ (n9lp : Nat) (i : Nat) (A1 : mA) (z : hv_W), k - i < n9lp → (i ≤ k) → (mK ca K w0 A1 B z) → (mRel A1 B (s_wrt σ i)) → (A1.thrown = A.thrown) → (¬ s_cut σ i) → ∀ (H : Heap) (locs : List Loc) (ls : Array Slot), hv_P D classes s0.heap.size z H → va_S (hv_A s0.heap.size) s.heap H locs → lv_has ls 3 [(0, .ref (K 0)), (1, .int (nI k)), (2, .int (nI i))] → W p l e rm_Model_log s m ([.ref (K 0), .int (nI k)] : List Value).toArray below meth c H locs 0 0 Q (F0 m 2 ls []) := by
    intro n9lp
    induction n9lp with
    | zero =>
      intro i A1 z hn9lp
      exact absurd hn9lp (Nat.not_lt_zero _)
    | succ n9lp ihlp =>
      intro i A1 z hn9lp hi hM hR1 ht1 hnc H locs ls hP hS hl
      refine lv_iload_n hx hb d_Model_log_2 rfl (lv_at hl 2 rfl) ?_
      refine lv_iload_n hx hb d_Model_log_3 rfl (lv_at hl 1 rfl) ?_
      refine gk_icmp_ge (x := i) (y := k) (tgt := 32) hx hb d_Model_log_4 (by decide) (by omega) (by omega) (fun c4 => ?_) (fun c4 => ?_)
      · refine lv_aload_n hx hb d_Model_log_32 rfl (lv_at hl 0 rfl) ?_
        have h1 : z (K 0) = some (.inr (7, [.int A1.thrown, .ref (K 1), .ref (K 2), .ref (K 3), .ref (K 4), .ref (K 5), .ref (K 6), .ref (K 7), .ref (K 8), .ref (K 9), .ref (K 10), .ref (K 11), .ref (K 12), .int (nI A1.tapeSize), .ref (K 13), .int A1.error, .int A1.off, .int A1.inside, .int (nI A1.changes), .int (nI A1.earlier), .int (nI A1.logged), .int A1.over, .int (nI A1.loose), .int A1.written, .int (nI A1.due)])) := hM.1.2 0 (by decide)
        refine hv_call (hv_runV (As := []) (rest := []) (c_Model_write C hM hR1 (show σ.due - i ≤ 2000 by omega) hW.1.2.2) (hv_cw C hZ kc_Model_write kn_Model ⟨rfl, rfl, Nat.le_of_ble_eq_true rfl, Nat.le_of_ble_eq_true rfl⟩) hv_blind (hv_pre hZ hS hP) hx hml hb hown (hts _ k_Model_90) (hts _ ki_Model_write) (hts _ ksel_Model_Model_write) hy_Model_write (hts _ kc_Model_write) (va_recv hK (hv_one hP h1) (ci := 7) (q0 := 0) rfl rfl) rfl hl.1 rfl (lv_room (Nat.le_of_ble_eq_true rfl)) d_Model_log_33 ⟨Nat.le_of_ble_eq_true rfl, Nat.le_of_ble_eq_true rfl⟩) hZ hS (fun v9 w2 H locs q3 hP hS => ?_) (fun x9 w2 H locs q3 hP hS => q3.elim)
        rcases q3 with ⟨hd1, hv9, hS9⟩ | ⟨hd1, hv9, A2, hM, hR2, ht8⟩
        · subst hv9
          have hdi : σ.due - i = 1 := hd1
          have hdu : σ.due = i + 1 := by omega
          rw [s_wrt_fail hdu, ht1] at hS9
          show W _ _ _ _ _ _ _ _ _ _ _ _ _ _ _ (F0 m 36 ls [.int 0])
          refine lv_if_ne (tgt := 41) hx hb d_Model_log_36 (by decide) (fun c36 => ?_) (fun c36 => ?_)
          · exact absurd c36 (by decide)
          · refine lv_iconst (v := 0) hx hb d_Model_log_39 (by decide) ?_
            exact hv_zret (v := 0) hQ hx hb hr (by decide) hZ hS hP hlocks d_Model_log_40 (Or.inl ⟨⟨by omega, by omega⟩, rfl, hS9⟩)
        · subst hv9
          have hnd : ¬ σ.due - i = 1 := hd1
          rw [s_wrt_next] at hR2
          obtain ⟨t8, k8, p8, hA8⟩ := mAo_of hR2
          subst hA8
          have ht2 : t8 = A.thrown := ht8.trans ht1
          show W _ _ _ _ _ _ _ _ _ _ _ _ _ _ _ (F0 m 36 ls [.int 1])
          refine lv_if_ne (tgt := 41) hx hb d_Model_log_36 (by decide) (fun c36 => ?_) (fun c36 => ?_)
          · refine lv_aload_n hx hb d_Model_log_41 rfl (lv_at hl 0 rfl) ?_
            refine lv_iconst (v := 0) hx hb d_Model_log_42 (by decide) ?_
            have h4 : w2 (K 0) = some (.inr (7, [.int ((mAo t8 k8 p8 ((s_wrt σ (i + 1)).sLo i)).thrown), .ref (K 1), .ref (K 2), .ref (K 3), .ref (K 4), .ref (K 5), .ref (K 6), .ref (K 7), .ref (K 8), .ref (K 9), .ref (K 10), .ref (K 11), .ref (K 12), .int (nI ((mAo t8 k8 p8 ((s_wrt σ (i + 1)).sLo i)).tapeSize)), .ref (K 13), .int ((mAo t8 k8 p8 ((s_wrt σ (i + 1)).sLo i)).error), .int ((mAo t8 k8 p8 ((s_wrt σ (i + 1)).sLo i)).off), .int ((mAo t8 k8 p8 ((s_wrt σ (i + 1)).sLo i)).inside), .int (nI ((mAo t8 k8 p8 ((s_wrt σ (i + 1)).sLo i)).changes)), .int (nI ((mAo t8 k8 p8 ((s_wrt σ (i + 1)).sLo i)).earlier)), .int (nI (σ.en)), .int (σ.tr), .int (nI i), .int ((mAo t8 k8 p8 ((s_wrt σ (i + 1)).sLo i)).written), .int (nI ((mAo t8 k8 p8 ((s_wrt σ (i + 1)).sLo i)).due))])) := hM.1.2 0 (by decide)
            refine hv_put (D := D) (ci := 7) (v := .int 0) (ty := .int) (C := R_Model) (T := F_Model) (N := 25) hx hb hts i_Model t_Model t_Model_ok n_Model hown hK hP hS h4 rfl 22 (by decide) (hts _ k_Model_94) (fun _ h9 => h9) rfl (by decide +kernel) rfl rfl (Nat.le_of_ble_eq_true rfl) d_Model_log_43 (fun H locs hP hS => ?_)
            obtain ⟨w5, ew5⟩ : ∃ z9 : hv_W, z9 = va_up w2 (K 0) (some (.inr (7, [.int ((mAo t8 k8 p8 ((s_wrt σ (i + 1)).sLo i)).thrown), .ref (K 1), .ref (K 2), .ref (K 3), .ref (K 4), .ref (K 5), .ref (K 6), .ref (K 7), .ref (K 8), .ref (K 9), .ref (K 10), .ref (K 11), .ref (K 12), .int (nI ((mAo t8 k8 p8 ((s_wrt σ (i + 1)).sLo i)).tapeSize)), .ref (K 13), .int ((mAo t8 k8 p8 ((s_wrt σ (i + 1)).sLo i)).error), .int ((mAo t8 k8 p8 ((s_wrt σ (i + 1)).sLo i)).off), .int ((mAo t8 k8 p8 ((s_wrt σ (i + 1)).sLo i)).inside), .int (nI ((mAo t8 k8 p8 ((s_wrt σ (i + 1)).sLo i)).changes)), .int (nI ((mAo t8 k8 p8 ((s_wrt σ (i + 1)).sLo i)).earlier)), .int (nI (σ.en)), .int (σ.tr), .int 0, .int ((mAo t8 k8 p8 ((s_wrt σ (i + 1)).sLo i)).written), .int (nI ((mAo t8 k8 p8 ((s_wrt σ (i + 1)).sLo i)).due))]))) := ⟨_, rfl⟩
            have hP : hv_P D classes s0.heap.size w5 H := by rw [ew5]; exact hP
            have hM : mK ca K w0 ((mAo t8 k8 p8 ((s_wrt σ (i + 1)).sLo i)).sLoose 0) B w5 := by rw [ew5]; exact hM.put 0 (by decide) rfl
            have h6 : w5 (K 0) = some (.inr (7, [.int ((mAo t8 k8 p8 ((s_wrt σ (i + 1)).sLo i)).thrown), .ref (K 1), .ref (K 2), .ref (K 3), .ref (K 4), .ref (K 5), .ref (K 6), .ref (K 7), .ref (K 8), .ref (K 9), .ref (K 10), .ref (K 11), .ref (K 12), .int (nI ((mAo t8 k8 p8 ((s_wrt σ (i + 1)).sLo i)).tapeSize)), .ref (K 13), .int ((mAo t8 k8 p8 ((s_wrt σ (i + 1)).sLo i)).error), .int ((mAo t8 k8 p8 ((s_wrt σ (i + 1)).sLo i)).off), .int ((mAo t8 k8 p8 ((s_wrt σ (i + 1)).sLo i)).inside), .int (nI ((mAo t8 k8 p8 ((s_wrt σ (i + 1)).sLo i)).changes)), .int (nI ((mAo t8 k8 p8 ((s_wrt σ (i + 1)).sLo i)).earlier)), .int (nI (σ.en)), .int (σ.tr), .int 0, .int ((mAo t8 k8 p8 ((s_wrt σ (i + 1)).sLo i)).written), .int (nI ((mAo t8 k8 p8 ((s_wrt σ (i + 1)).sLo i)).due))])) := by rw [ew5]; exact hv_up_s
            refine lv_aload_n hx hb d_Model_log_46 rfl (lv_at hl 0 rfl) ?_
            refine lv_dup hx hb d_Model_log_47 rfl ?_
            refine va_get (D := D) (ci := 7) (v := .int (nI (σ.en))) (C := R_Model) (T := F_Model) (N := 25) hx hb hts i_Model hown hK (hv_one hP h6) 0 rfl rfl 20 (by decide) (hts _ k_Model_97) (fun _ h9 => h9) rfl d_Model_log_48 ?_
            refine lv_iload_n hx hb d_Model_log_51 rfl (lv_at hl 1 rfl) ?_
            refine lv_iconst (v := 1) hx hb d_Model_log_52 (by decide) ?_
            refine gk_iadd (x := k) (y := 1) hx hb d_Model_log_53 ?_
            refine gk_iadd (x := σ.en) (y := k + 1) hx hb d_Model_log_54 ?_
            refine hv_put (D := D) (ci := 7) (v := .int (nI ((σ.en) + (k + 1)))) (ty := .int) (C := R_Model) (T := F_Model) (N := 25) hx hb hts i_Model t_Model t_Model_ok n_Model hown hK hP hS h6 rfl 20 (by decide) (hts _ k_Model_97) (fun _ h9 => h9) rfl (by decide +kernel) rfl rfl (Nat.le_of_ble_eq_true rfl) d_Model_log_55 (fun H locs hP hS => ?_)
            obtain ⟨w7, ew7⟩ : ∃ z9 : hv_W, z9 = va_up w5 (K 0) (some (.inr (7, [.int ((mAo t8 k8 p8 ((s_wrt σ (i + 1)).sLo i)).thrown), .ref (K 1), .ref (K 2), .ref (K 3), .ref (K 4), .ref (K 5), .ref (K 6), .ref (K 7), .ref (K 8), .ref (K 9), .ref (K 10), .ref (K 11), .ref (K 12), .int (nI ((mAo t8 k8 p8 ((s_wrt σ (i + 1)).sLo i)).tapeSize)), .ref (K 13), .int ((mAo t8 k8 p8 ((s_wrt σ (i + 1)).sLo i)).error), .int ((mAo t8 k8 p8 ((s_wrt σ (i + 1)).sLo i)).off), .int ((mAo t8 k8 p8 ((s_wrt σ (i + 1)).sLo i)).inside), .int (nI ((mAo t8 k8 p8 ((s_wrt σ (i + 1)).sLo i)).changes)), .int (nI ((mAo t8 k8 p8 ((s_wrt σ (i + 1)).sLo i)).earlier)), .int (nI ((σ.en) + (k + 1))), .int (σ.tr), .int 0, .int ((mAo t8 k8 p8 ((s_wrt σ (i + 1)).sLo i)).written), .int (nI ((mAo t8 k8 p8 ((s_wrt σ (i + 1)).sLo i)).due))]))) := ⟨_, rfl⟩
            have hP : hv_P D classes s0.heap.size w7 H := by rw [ew7]; exact hP
            have hM : mK ca K w0 (((mAo t8 k8 p8 ((s_wrt σ (i + 1)).sLo i)).sLogged ((σ.en) + (k + 1))).sLoose 0) B w7 := by rw [ew7]; exact hM.put 0 (by decide) rfl
            have h8 : w7 (K 0) = some (.inr (7, [.int ((mAo t8 k8 p8 ((s_wrt σ (i + 1)).sLo i)).thrown), .ref (K 1), .ref (K 2), .ref (K 3), .ref (K 4), .ref (K 5), .ref (K 6), .ref (K 7), .ref (K 8), .ref (K 9), .ref (K 10), .ref (K 11), .ref (K 12), .int (nI ((mAo t8 k8 p8 ((s_wrt σ (i + 1)).sLo i)).tapeSize)), .ref (K 13), .int ((mAo t8 k8 p8 ((s_wrt σ (i + 1)).sLo i)).error), .int ((mAo t8 k8 p8 ((s_wrt σ (i + 1)).sLo i)).off), .int ((mAo t8 k8 p8 ((s_wrt σ (i + 1)).sLo i)).inside), .int (nI ((mAo t8 k8 p8 ((s_wrt σ (i + 1)).sLo i)).changes)), .int (nI ((mAo t8 k8 p8 ((s_wrt σ (i + 1)).sLo i)).earlier)), .int (nI ((σ.en) + (k + 1))), .int (σ.tr), .int 0, .int ((mAo t8 k8 p8 ((s_wrt σ (i + 1)).sLo i)).written), .int (nI ((mAo t8 k8 p8 ((s_wrt σ (i + 1)).sLo i)).due))])) := by rw [ew7]; exact hv_up_s
            refine lv_aload_n hx hb d_Model_log_58 rfl (lv_at hl 0 rfl) ?_
            refine lv_dup hx hb d_Model_log_59 rfl ?_
            refine va_get (D := D) (ci := 7) (v := .int (σ.tr)) (C := R_Model) (T := F_Model) (N := 25) hx hb hts i_Model hown hK (hv_one hP h8) 0 rfl rfl 21 (by decide) (hts _ k_Model_100) (fun _ h9 => h9) rfl d_Model_log_60 ?_
            refine lv_iconst (v := 1) hx hb d_Model_log_63 (by decide) ?_
            refine lv_iadd hx hb d_Model_log_64 ?_
            refine hv_put (D := D) (ci := 7) (v := .int ((σ.tr) + 1)) (ty := .int) (C := R_Model) (T := F_Model) (N := 25) hx hb hts i_Model t_Model t_Model_ok n_Model hown hK hP hS h8 rfl 21 (by decide) (hts _ k_Model_100) (fun _ h9 => h9) rfl (by decide +kernel) rfl rfl (Nat.le_of_ble_eq_true rfl) d_Model_log_65 (fun H locs hP hS => ?_)
            obtain ⟨w9, ew9⟩ : ∃ z9 : hv_W, z9 = va_up w7 (K 0) (some (.inr (7, [.int ((mAo t8 k8 p8 ((s_wrt σ (i + 1)).sLo i)).thrown), .ref (K 1), .ref (K 2), .ref (K 3), .ref (K 4), .ref (K 5), .ref (K 6), .ref (K 7), .ref (K 8), .ref (K 9), .ref (K 10), .ref (K 11), .ref (K 12), .int (nI ((mAo t8 k8 p8 ((s_wrt σ (i + 1)).sLo i)).tapeSize)), .ref (K 13), .int ((mAo t8 k8 p8 ((s_wrt σ (i + 1)).sLo i)).error), .int ((mAo t8 k8 p8 ((s_wrt σ (i + 1)).sLo i)).off), .int ((mAo t8 k8 p8 ((s_wrt σ (i + 1)).sLo i)).inside), .int (nI ((mAo t8 k8 p8 ((s_wrt σ (i + 1)).sLo i)).changes)), .int (nI ((mAo t8 k8 p8 ((s_wrt σ (i + 1)).sLo i)).earlier)), .int (nI ((σ.en) + (k + 1))), .int ((σ.tr) + 1), .int 0, .int ((mAo t8 k8 p8 ((s_wrt σ (i + 1)).sLo i)).written), .int (nI ((mAo t8 k8 p8 ((s_wrt σ (i + 1)).sLo i)).due))]))) := ⟨_, rfl⟩
            have hP : hv_P D classes s0.heap.size w9 H := by rw [ew9]; exact hP
            have hM : mK ca K w0 ((((mAo t8 k8 p8 ((s_wrt σ (i + 1)).sLo i)).sLogged ((σ.en) + (k + 1))).sOver ((σ.tr) + 1)).sLoose 0) B w9 := by rw [ew9]; exact hM.put 0 (by decide) rfl
            have h10 : w9 (K 0) = some (.inr (7, [.int ((mAo t8 k8 p8 ((s_wrt σ (i + 1)).sLo i)).thrown), .ref (K 1), .ref (K 2), .ref (K 3), .ref (K 4), .ref (K 5), .ref (K 6), .ref (K 7), .ref (K 8), .ref (K 9), .ref (K 10), .ref (K 11), .ref (K 12), .int (nI ((mAo t8 k8 p8 ((s_wrt σ (i + 1)).sLo i)).tapeSize)), .ref (K 13), .int ((mAo t8 k8 p8 ((s_wrt σ (i + 1)).sLo i)).error), .int ((mAo t8 k8 p8 ((s_wrt σ (i + 1)).sLo i)).off), .int ((mAo t8 k8 p8 ((s_wrt σ (i + 1)).sLo i)).inside), .int (nI ((mAo t8 k8 p8 ((s_wrt σ (i + 1)).sLo i)).changes)), .int (nI ((mAo t8 k8 p8 ((s_wrt σ (i + 1)).sLo i)).earlier)), .int (nI ((σ.en) + (k + 1))), .int ((σ.tr) + 1), .int 0, .int ((mAo t8 k8 p8 ((s_wrt σ (i + 1)).sLo i)).written), .int (nI ((mAo t8 k8 p8 ((s_wrt σ (i + 1)).sLo i)).due))])) := by rw [ew9]; exact hv_up_s
            refine lv_aload_n hx hb d_Model_log_68 rfl (lv_at hl 0 rfl) ?_
            refine lv_iconst (v := 0) hx hb d_Model_log_69 (by decide) ?_
            refine lv_iconst (v := 3) hx hb d_Model_log_70 (by decide) ?_
            have hik : i = k := by omega
            have hR3 := ((hR2.en (σ.en + (k + 1))).tr (σ.tr + 1)).lo 0
            refine hv_call (hv_runV (As := [.int 0, .int 3]) (rest := []) (c_Model_copy C (f := 0) (t := 3) (by decide) (by decide) (by decide) hM hRel.1.2.2.2.2) (hv_cw C hZ kc_Model_copy kn_Model ⟨rfl, rfl, Nat.le_of_ble_eq_true rfl, Nat.le_of_ble_eq_true rfl⟩) hv_blind (hv_pre hZ hS hP) hx hml hb hown (hts _ k_Model_72) (hts _ ki_Model_copy) (hts _ ksel_Model_Model_copy) hy_Model_copy (hts _ kc_Model_copy) (va_recv hK (hv_one hP h10) (ci := 7) (q0 := 0) rfl rfl) rfl hl.1 rfl (lv_room (Nat.le_of_ble_eq_true rfl)) d_Model_log_71 ⟨Nat.le_of_ble_eq_true rfl, Nat.le_of_ble_eq_true rfl⟩) hZ hS (fun v9 w11 H locs q12 hP hS => ?_) (fun x9 w11 H locs q12 hP hS => q12.elim)
            obtain ⟨hv9, B2, hM, hcp⟩ := q12
            subst hv9
            show W _ _ _ _ _ _ _ _ _ _ _ _ _ _ _ (F0 m 74 ls [])
            refine lv_iconst (v := 1) hx hb d_Model_log_74 (by decide) ?_
            exact hv_zret (v := 1) hQ hx hb hr (by decide) hZ hS hP hlocks d_Model_log_75 (Or.inr ⟨fun z => (Nat.lt_or_ge i σ.due).elim (fun y => hnd (by have z2 := z.2; omega)) (fun y => hnc ⟨z.1, y⟩), rfl, _, B2, hM, by have y1 : ((((((s_wrt σ (i + 1)).sLo i).sEn (σ.en + (k + 1))).sTr (σ.tr + 1)).sLo 0).sIns 0).now = σ.now := (by simp only [s_wrt, gS.pNow, gS.pStm, gS.pKept, gS.pGone, gS.pTape, gS.pErr, gS.pSc, gS.pEc, gS.pIns, gS.pOff, gS.pWr, gS.pEn, gS.pLo, gS.pTr, gS.pDue]); have y2 : ((((((s_wrt σ (i + 1)).sLo i).sEn (σ.en + (k + 1))).sTr (σ.tr + 1)).sLo 0).sIns 0).stm = σ.stm := (by simp only [s_wrt, gS.pNow, gS.pStm, gS.pKept, gS.pGone, gS.pTape, gS.pErr, gS.pSc, gS.pEc, gS.pIns, gS.pOff, gS.pWr, gS.pEn, gS.pLo, gS.pTr, gS.pDue]); have z9 := hR3.ins0.keep (show ((((((s_wrt σ (i + 1)).sLo i).sEn (σ.en + (k + 1))).sTr (σ.tr + 1)).sLo 0).sIns 0).ins = 0 by simp only [gS.pNow, gS.pStm, gS.pKept, gS.pGone, gS.pTape, gS.pErr, gS.pSc, gS.pEc, gS.pIns, gS.pOff, gS.pWr, gS.pEn, gS.pLo, gS.pTr, gS.pDue]) hcp y1 y2 hW.1.1 hW.1.2.1; rw [← s_keepO_eq2 hlo]; rw [hik] at z9 ⊢; exact z9, ht2, by show ((s_wrt σ (i + 1)).sLo i).ins = σ.ins; simp only [s_wrt, gS.pNow, gS.pStm, gS.pKept, gS.pGone, gS.pTape, gS.pErr, gS.pSc, gS.pEc, gS.pIns, gS.pOff, gS.pWr, gS.pEn, gS.pLo, gS.pTr, gS.pDue]⟩)
          · exact absurd c36 (by decide)
      · refine lv_aload_n hx hb d_Model_log_7 rfl (lv_at hl 0 rfl) ?_
        have h13 : z (K 0) = some (.inr (7, [.int A1.thrown, .ref (K 1), .ref (K 2), .ref (K 3), .ref (K 4), .ref (K 5), .ref (K 6), .ref (K 7), .ref (K 8), .ref (K 9), .ref (K 10), .ref (K 11), .ref (K 12), .int (nI A1.tapeSize), .ref (K 13), .int A1.error, .int A1.off, .int A1.inside, .int (nI A1.changes), .int (nI A1.earlier), .int (nI A1.logged), .int A1.over, .int (nI A1.loose), .int A1.written, .int (nI A1.due)])) := hM.1.2 0 (by decide)
        refine hv_call (hv_runV (As := []) (rest := []) (c_Model_write C hM hR1 (show σ.due - i ≤ 2000 by omega) hW.1.2.2) (hv_cw C hZ kc_Model_write kn_Model ⟨rfl, rfl, Nat.le_of_ble_eq_true rfl, Nat.le_of_ble_eq_true rfl⟩) hv_blind (hv_pre hZ hS hP) hx hml hb hown (hts _ k_Model_90) (hts _ ki_Model_write) (hts _ ksel_Model_Model_write) hy_Model_write (hts _ kc_Model_write) (va_recv hK (hv_one hP h13) (ci := 7) (q0 := 0) rfl rfl) rfl hl.1 rfl (lv_room (Nat.le_of_ble_eq_true rfl)) d_Model_log_8 ⟨Nat.le_of_ble_eq_true rfl, Nat.le_of_ble_eq_true rfl⟩) hZ hS (fun v9 w14 H locs q15 hP hS => ?_) (fun x9 w14 H locs q15 hP hS => q15.elim)
        rcases q15 with ⟨hd1, hv9, hS9⟩ | ⟨hd1, hv9, A2, hM, hR2, ht8⟩
        · subst hv9
          have hdi : σ.due - i = 1 := hd1
          have hdu : σ.due = i + 1 := by omega
          rw [s_wrt_fail hdu, ht1] at hS9
          show W _ _ _ _ _ _ _ _ _ _ _ _ _ _ _ (F0 m 11 ls [.int 0])
          refine lv_if_ne (tgt := 16) hx hb d_Model_log_11 (by decide) (fun c11 => ?_) (fun c11 => ?_)
          · exact absurd c11 (by decide)
          · refine lv_iconst (v := 0) hx hb d_Model_log_14 (by decide) ?_
            exact hv_zret (v := 0) hQ hx hb hr (by decide) hZ hS hP hlocks d_Model_log_15 (Or.inl ⟨⟨by omega, by omega⟩, rfl, hS9⟩)
        · subst hv9
          have hnd : ¬ σ.due - i = 1 := hd1
          rw [s_wrt_next] at hR2
          obtain ⟨t8, k8, p8, hA8⟩ := mAo_of hR2
          subst hA8
          have ht2 : t8 = A.thrown := ht8.trans ht1
          show W _ _ _ _ _ _ _ _ _ _ _ _ _ _ _ (F0 m 11 ls [.int 1])
          refine lv_if_ne (tgt := 16) hx hb d_Model_log_11 (by decide) (fun c11 => ?_) (fun c11 => ?_)
          · refine lv_aload_n hx hb d_Model_log_16 rfl (lv_at hl 0 rfl) ?_
            refine lv_dup hx hb d_Model_log_17 rfl ?_
            have h16 : w14 (K 0) = some (.inr (7, [.int ((mAo t8 k8 p8 ((s_wrt σ (i + 1)).sLo i)).thrown), .ref (K 1), .ref (K 2), .ref (K 3), .ref (K 4), .ref (K 5), .ref (K 6), .ref (K 7), .ref (K 8), .ref (K 9), .ref (K 10), .ref (K 11), .ref (K 12), .int (nI ((mAo t8 k8 p8 ((s_wrt σ (i + 1)).sLo i)).tapeSize)), .ref (K 13), .int ((mAo t8 k8 p8 ((s_wrt σ (i + 1)).sLo i)).error), .int ((mAo t8 k8 p8 ((s_wrt σ (i + 1)).sLo i)).off), .int ((mAo t8 k8 p8 ((s_wrt σ (i + 1)).sLo i)).inside), .int (nI ((mAo t8 k8 p8 ((s_wrt σ (i + 1)).sLo i)).changes)), .int (nI ((mAo t8 k8 p8 ((s_wrt σ (i + 1)).sLo i)).earlier)), .int (nI (σ.en)), .int (σ.tr), .int (nI i), .int ((mAo t8 k8 p8 ((s_wrt σ (i + 1)).sLo i)).written), .int (nI ((mAo t8 k8 p8 ((s_wrt σ (i + 1)).sLo i)).due))])) := hM.1.2 0 (by decide)
            refine va_get (D := D) (ci := 7) (v := .int (nI i)) (C := R_Model) (T := F_Model) (N := 25) hx hb hts i_Model hown hK (hv_one hP h16) 0 rfl rfl 22 (by decide) (hts _ k_Model_94) (fun _ h9 => h9) rfl d_Model_log_18 ?_
            refine lv_iconst (v := 1) hx hb d_Model_log_21 (by decide) ?_
            refine gk_iadd (x := i) (y := 1) hx hb d_Model_log_22 ?_
            refine hv_put (D := D) (ci := 7) (v := .int (nI (i + 1))) (ty := .int) (C := R_Model) (T := F_Model) (N := 25) hx hb hts i_Model t_Model t_Model_ok n_Model hown hK hP hS h16 rfl 22 (by decide) (hts _ k_Model_94) (fun _ h9 => h9) rfl (by decide +kernel) rfl rfl (Nat.le_of_ble_eq_true rfl) d_Model_log_23 (fun H locs hP hS => ?_)
            obtain ⟨w17, ew17⟩ : ∃ z9 : hv_W, z9 = va_up w14 (K 0) (some (.inr (7, [.int ((mAo t8 k8 p8 ((s_wrt σ (i + 1)).sLo i)).thrown), .ref (K 1), .ref (K 2), .ref (K 3), .ref (K 4), .ref (K 5), .ref (K 6), .ref (K 7), .ref (K 8), .ref (K 9), .ref (K 10), .ref (K 11), .ref (K 12), .int (nI ((mAo t8 k8 p8 ((s_wrt σ (i + 1)).sLo i)).tapeSize)), .ref (K 13), .int ((mAo t8 k8 p8 ((s_wrt σ (i + 1)).sLo i)).error), .int ((mAo t8 k8 p8 ((s_wrt σ (i + 1)).sLo i)).off), .int ((mAo t8 k8 p8 ((s_wrt σ (i + 1)).sLo i)).inside), .int (nI ((mAo t8 k8 p8 ((s_wrt σ (i + 1)).sLo i)).changes)), .int (nI ((mAo t8 k8 p8 ((s_wrt σ (i + 1)).sLo i)).earlier)), .int (nI (σ.en)), .int (σ.tr), .int (nI (i + 1)), .int ((mAo t8 k8 p8 ((s_wrt σ (i + 1)).sLo i)).written), .int (nI ((mAo t8 k8 p8 ((s_wrt σ (i + 1)).sLo i)).due))]))) := ⟨_, rfl⟩
            have hP : hv_P D classes s0.heap.size w17 H := by rw [ew17]; exact hP
            have hM : mK ca K w0 ((mAo t8 k8 p8 ((s_wrt σ (i + 1)).sLo i)).sLoose (i + 1)) B w17 := by rw [ew17]; exact hM.put 0 (by decide) rfl
            have h18 : w17 (K 0) = some (.inr (7, [.int ((mAo t8 k8 p8 ((s_wrt σ (i + 1)).sLo i)).thrown), .ref (K 1), .ref (K 2), .ref (K 3), .ref (K 4), .ref (K 5), .ref (K 6), .ref (K 7), .ref (K 8), .ref (K 9), .ref (K 10), .ref (K 11), .ref (K 12), .int (nI ((mAo t8 k8 p8 ((s_wrt σ (i + 1)).sLo i)).tapeSize)), .ref (K 13), .int ((mAo t8 k8 p8 ((s_wrt σ (i + 1)).sLo i)).error), .int ((mAo t8 k8 p8 ((s_wrt σ (i + 1)).sLo i)).off), .int ((mAo t8 k8 p8 ((s_wrt σ (i + 1)).sLo i)).inside), .int (nI ((mAo t8 k8 p8 ((s_wrt σ (i + 1)).sLo i)).changes)), .int (nI ((mAo t8 k8 p8 ((s_wrt σ (i + 1)).sLo i)).earlier)), .int (nI (σ.en)), .int (σ.tr), .int (nI (i + 1)), .int ((mAo t8 k8 p8 ((s_wrt σ (i + 1)).sLo i)).written), .int (nI ((mAo t8 k8 p8 ((s_wrt σ (i + 1)).sLo i)).due))])) := by rw [ew17]; exact hv_up_s
            refine lv_iinc (v := (nI (i + 1))) (lv' := [(2, .int ((nI (i + 1)))), (0, .ref (K 0)), (1, .int (nI k))]) hx hb d_Model_log_26 hl (k := 2) rfl (nI_add i 1) (by decide) rfl (fun ls hl => ?_)
            refine lv_goto (tgt := 2) hx hb d_Model_log_29 (by decide) ?_
            exact ihlp (i + 1) ((mAo t8 k8 p8 ((s_wrt σ (i + 1)).sLo i)).sLoose (i + 1)) w17 (by omega) (by omega) hM (by have z9 := hR2.lo (i + 1); rw [s_wrt_lo] at z9; exact z9) ht2 (fun z => (Nat.lt_or_ge i σ.due).elim (fun y => hnd (by have z2 := z.2; omega)) (fun y => hnc ⟨z.1, y⟩)) _ _ _ hP hS (lv_sub hl [1, 2, 0] rfl)
          · exact absurd c11 (by decide)
  exact lp _ 0 A w (Nat.lt_succ_self _) (Nat.zero_le _) hM (by rw [s_wrt_0 hlo]; exact hRel) rfl (fun z => by have z1 := z.1; have z2 := z.2; omega) _ _ _ hP hS (lv_sub hl [1, 2, 0] rfl)

