set_option maxHeartbeats 4000000 in
set_option maxRecDepth 100000 in
theorem lc_done {p : Program} {l : Launch} {e : Env} {s : State} {m : MethodId} {below : List Frame} {meth : Method} {c : Code} {D : va_G} {ca : Nat → ClassId} {b n0 : Nat} {xs : Nat → Int32} {Q : State → Prop} (F : lF l s D ca p m c b n0 xs) {L K : Nat → Nat} {o9 i cells slots : Nat} (hi : i + 7 ≤ n0) (hcl : cells + 9 ≤ 601024) (hsl : slots + 69 ≤ 7293034) (kk : lKK p l e s m below meth c D ca L K o9 b i cells slots Q)
    {w : hv_W} {σ : gS} {f9 : Nat → Int64} (I : lI ca L K o9 σ f9 w) {H : Heap} {locs : List Loc} {ls : Array Slot} (hP : hv_P D classes s.heap.size w H) (hS : va_S (hv_A s.heap.size) s.heap H locs) (hl : lv_has ls 8 (lLoc b L K o9 i)) : W p l e room_1 s m #[Value.ref b] below meth c H locs cells slots Q (F0 m 638 ls []) := by
  obtain ⟨C, N, hx, hb, hml, hown, hts, hX, hbl, hn0⟩ := F
  have hK : va_K D classes (hv_tys ca) s := C.1
  have hZ : hv_Z s s := hv_Z.refl s
  have hbA : ¬ hv_A s.heap.size b := Nat.not_le.mpr hbl
  have hl : lv_has ls 8 [(0, .ref b), (1, .ref (L 0)), (2, .ref (K 0)), (3, .ref o9), (4, .int (nI i))] := hl
  obtain ⟨hgx, hJ⟩ := I
  have hW : gW σ := hgx.1
  obtain ⟨⟨P, hM, hR⟩, -, ho9, hap⟩ := id hJ
  have hlo : ¬ cM L o9 := hap.2.2.1
  have h0 : w (L 0) = some (.inr (0, [.ref (L 1), .ref (L 2), .ref (L 3), .ref (L 4), .ref (L 5), .ref (L 6), .ref (L 7), .int (σ.err), .int (nI σ.sc), .int (nI σ.ec), .int (σ.ins), .int (σ.off)])) := hM.1.2 0 (by decide)
  refine lv_aload_n hx hb d_Law_law_638 rfl (lv_at hl 1 rfl) ?_
  refine lv_aload_n hx hb d_Law_law_639 rfl (lv_at hl 3 rfl) ?_
  refine hv_call (hv_runS (As := [.ref (L 0), .ref o9]) (rest := []) (c_Law_done C N  hM hR hW ho9 hlo) (hv_cwW C hZ kc_Law_done kn_Law ⟨rfl, rfl, Nat.le_of_ble_eq_true rfl, Nat.le_of_ble_eq_true rfl⟩) hv_blind (hv_pre hZ hS hP) hx hml hb hown (hts _ k_Law_88) (hts _ ki_Law_done) (hts _ kn_Law) hy_Law_done (hv_sigW (hts _ kc_Law_done)) rfl hl.1 rfl (lv_room (Nat.le_of_ble_eq_true rfl)) d_Law_law_640 ⟨by show _ ≤ 601024; omega, by show _ ≤ 7293034; omega⟩) hZ hS (fun v9 w1 H locs q2 hP hS => ?_) (fun x9 w1 H locs q2 hP hS => q2.elim)
  have hgx1 : gX (x_done σ).1 := gX_done hgx
  obtain ⟨hv9, hk2, w7, hP9, hcase⟩ := q2
  subst hv9
  have hJ1 := hJ.cls hP9
  rcases hcase with ⟨hk9, hw9⟩ | ⟨hk9, hw9⟩
  · have hJ2 : lJ ca L K o9 (x_done σ).1 σ f9 w1 := by rw [hw9]; exact hJ1
    show W _ _ _ _ _ _ _ _ _ _ _ _ _ _ _ (F0 m 643 ls [.int (nI ((x_done σ).2.1))])
    obtain ⟨-, ⟨t8, A8, B8, hM8, hR8, -⟩, -, -⟩ := id hJ2
    have h3 : w1 (K 0) = some (.inr (7, [.int A8.thrown, .ref (K 1), .ref (K 2), .ref (K 3), .ref (K 4), .ref (K 5), .ref (K 6), .ref (K 7), .ref (K 8), .ref (K 9), .ref (K 10), .ref (K 11), .ref (K 12), .int (nI A8.tapeSize), .ref (K 13), .int A8.error, .int A8.off, .int A8.inside, .int (nI A8.changes), .int (nI A8.earlier), .int (nI A8.logged), .int A8.over, .int (nI A8.loose), .int A8.written, .int (nI A8.due)])) := hM8.1.2 0 (by decide)
    refine lv_istore (lv' := [(5, .int (nI ((x_done σ).2.1))), (0, .ref b), (1, .ref (L 0)), (2, .ref (K 0)), (3, .ref o9), (4, .int (nI i))]) hx hb d_Law_law_643 hl (by decide) rfl (fun ls hl => ?_)
    refine lv_aload_n hx hb d_Law_law_645 rfl (lv_at hl 3 rfl) ?_
    refine hv_call (hv_runV (As := []) (rest := []) (c_Model_done C  hM8 hR8 hW) (hv_cw C hZ kc_Model_done kn_Model ⟨rfl, rfl, Nat.le_of_ble_eq_true rfl, Nat.le_of_ble_eq_true rfl⟩) hv_blind (hv_pre hZ hS hP) hx hml hb hown (hts _ k_Law_90) (hts _ ki_Model_done) (hts _ ksel_Model_Model_done) hy_Model_done (hts _ kc_Model_done) (va_recv hK (hv_one hP h3) (ci := 7) (q0 := 0) rfl rfl) rfl hl.1 rfl (lv_room (Nat.le_of_ble_eq_true rfl)) d_Law_law_646 ⟨by show _ ≤ 601024; omega, by show _ ≤ 7293034; omega⟩) hZ hS (fun v9 w4 H locs q5 hP hS => ?_) (fun x9 w4 H locs q5 hP hS => q5.elim)
    obtain ⟨x8, hv8, hx8, hS8⟩ := q5
    subst hv8
    have hJ3 := hJ2.mod hgx1.1 hS8
    show W _ _ _ _ _ _ _ _ _ _ _ _ _ _ _ (F0 m 649 ls [.int x8])
    obtain ⟨A7, B7, hM7, hR7, ht7⟩ := id hS8
    have h6 : w4 (K 0) = some (.inr (7, [.int A7.thrown, .ref (K 1), .ref (K 2), .ref (K 3), .ref (K 4), .ref (K 5), .ref (K 6), .ref (K 7), .ref (K 8), .ref (K 9), .ref (K 10), .ref (K 11), .ref (K 12), .int (nI A7.tapeSize), .ref (K 13), .int A7.error, .int A7.off, .int A7.inside, .int (nI A7.changes), .int (nI A7.earlier), .int (nI A7.logged), .int A7.over, .int (nI A7.loose), .int A7.written, .int (nI A7.due)])) := hM7.1.2 0 (by decide)
    refine lv_istore (lv' := [(6, .int x8), (5, .int (nI ((x_done σ).2.1))), (0, .ref b), (1, .ref (L 0)), (2, .ref (K 0)), (3, .ref o9), (4, .int (nI i))]) hx hb d_Law_law_649 hl (by decide) rfl (fun ls hl => ?_)
    refine lv_aload_n hx hb d_Law_law_651 rfl (lv_at hl 4 rfl) ?_
    refine hv_call (hv_runV (As := []) (rest := []) (c_Model_thrown C hM7) (hv_cw C hZ kc_Model_thrown kn_Model ⟨rfl, rfl, Nat.le_of_ble_eq_true rfl, Nat.le_of_ble_eq_true rfl⟩) hv_blind (hv_pre hZ hS hP) hx hml hb hown (hts _ k_Law_65) (hts _ ki_Model_thrown) (hts _ ksel_Model_Model_thrown) hy_Model_thrown (hts _ kc_Model_thrown) (va_recv hK (hv_one hP h6) (ci := 7) (q0 := 0) rfl rfl) rfl hl.1 rfl (lv_room (Nat.le_of_ble_eq_true rfl)) d_Law_law_652 ⟨by show _ ≤ 601024; omega, by show _ ≤ 7293034; omega⟩) hZ hS (fun v9 w7 H locs q8 hP hS => ?_) (fun x9 w7 H locs q8 hP hS => q8.elim)
    obtain ⟨hv9, hw9⟩ := q8
    subst hv9
    rw [hw9] at hP
    show W _ _ _ _ _ _ _ _ _ _ _ _ _ _ _ (F0 m 655 ls [.int A7.thrown])
    refine lv_topi (fun v9 e9 => ?_)
    have e9 : v9 = nI ((x_done σ).2.1) := e9.trans (ht7)
    subst e9
    show W _ _ _ _ _ _ _ _ _ _ _ _ _ _ _ (F0 m 655 ls [.int (nI ((x_done σ).2.1))])
    refine lv_iload hx hb d_Law_law_655 (lv_at hl 1 rfl) ?_
    refine gk_icmp_eq (x := (x_done σ).2.1) (y := (x_done σ).2.1) (tgt := 662) hx hb d_Law_law_657 (by decide) (by omega) (by omega) (fun c657 => ?_) (fun c657 => ?_)
    · refine lv_iload hx hb d_Law_law_662 (lv_at hl 1 rfl) ?_
      refine gk_if_ne (x := (x_done σ).2.1) (tgt := 679) hx hb d_Law_law_664 (by decide) (by omega) (fun c664 => ?_) (fun c664 => ?_)
      · refine lv_goto (tgt := 1114) hx hb d_Law_law_679 (by decide) ?_
        refine W.widen (k := cells + 9) (n := slots + 69) (by omega) (by omega) ?_
        exact kk _ _ _ ⟨hgx1, hJ3⟩ _ _ _ hP hS (lv_sub hl [2, 3, 4, 5, 6] rfl)
      · exact absurd c664 hk9
    · exact absurd rfl c657
  · have hJ2 : lJ ca L K o9 (x_done σ).1 σ (vp_updL f9 0 ((x_done σ).2.2.toInt64)) w1 := by rw [hw9]; exact hJ1.out hgx1.1
    show W _ _ _ _ _ _ _ _ _ _ _ _ _ _ _ (F0 m 643 ls [.int (nI ((x_done σ).2.1))])
    obtain ⟨-, ⟨t8, A8, B8, hM8, hR8, -⟩, -, -⟩ := id hJ2
    have h9 : w1 (K 0) = some (.inr (7, [.int A8.thrown, .ref (K 1), .ref (K 2), .ref (K 3), .ref (K 4), .ref (K 5), .ref (K 6), .ref (K 7), .ref (K 8), .ref (K 9), .ref (K 10), .ref (K 11), .ref (K 12), .int (nI A8.tapeSize), .ref (K 13), .int A8.error, .int A8.off, .int A8.inside, .int (nI A8.changes), .int (nI A8.earlier), .int (nI A8.logged), .int A8.over, .int (nI A8.loose), .int A8.written, .int (nI A8.due)])) := hM8.1.2 0 (by decide)
    refine lv_istore (lv' := [(5, .int (nI ((x_done σ).2.1))), (0, .ref b), (1, .ref (L 0)), (2, .ref (K 0)), (3, .ref o9), (4, .int (nI i))]) hx hb d_Law_law_643 hl (by decide) rfl (fun ls hl => ?_)
    refine lv_aload_n hx hb d_Law_law_645 rfl (lv_at hl 3 rfl) ?_
    refine hv_call (hv_runV (As := []) (rest := []) (c_Model_done C  hM8 hR8 hW) (hv_cw C hZ kc_Model_done kn_Model ⟨rfl, rfl, Nat.le_of_ble_eq_true rfl, Nat.le_of_ble_eq_true rfl⟩) hv_blind (hv_pre hZ hS hP) hx hml hb hown (hts _ k_Law_90) (hts _ ki_Model_done) (hts _ ksel_Model_Model_done) hy_Model_done (hts _ kc_Model_done) (va_recv hK (hv_one hP h9) (ci := 7) (q0 := 0) rfl rfl) rfl hl.1 rfl (lv_room (Nat.le_of_ble_eq_true rfl)) d_Law_law_646 ⟨by show _ ≤ 601024; omega, by show _ ≤ 7293034; omega⟩) hZ hS (fun v9 w10 H locs q11 hP hS => ?_) (fun x9 w10 H locs q11 hP hS => q11.elim)
    obtain ⟨x8, hv8, hx8, hS8⟩ := q11
    subst hv8
    have hx8 := hx8 hk9
    subst hx8
    have hJ3 := hJ2.mod hgx1.1 hS8
    show W _ _ _ _ _ _ _ _ _ _ _ _ _ _ _ (F0 m 649 ls [.int ((x_done σ).2.2)])
    obtain ⟨A7, B7, hM7, hR7, ht7⟩ := id hS8
    have h12 : w10 (K 0) = some (.inr (7, [.int A7.thrown, .ref (K 1), .ref (K 2), .ref (K 3), .ref (K 4), .ref (K 5), .ref (K 6), .ref (K 7), .ref (K 8), .ref (K 9), .ref (K 10), .ref (K 11), .ref (K 12), .int (nI A7.tapeSize), .ref (K 13), .int A7.error, .int A7.off, .int A7.inside, .int (nI A7.changes), .int (nI A7.earlier), .int (nI A7.logged), .int A7.over, .int (nI A7.loose), .int A7.written, .int (nI A7.due)])) := hM7.1.2 0 (by decide)
    have h13 : w10 o9 = some (.inl (ca 3, 1, .inr (.inl (vp_updL f9 0 ((x_done σ).2.2.toInt64))))) := hJ3.2.2.1
    refine lv_istore (lv' := [(6, .int ((x_done σ).2.2)), (5, .int (nI ((x_done σ).2.1))), (0, .ref b), (1, .ref (L 0)), (2, .ref (K 0)), (3, .ref o9), (4, .int (nI i))]) hx hb d_Law_law_649 hl (by decide) rfl (fun ls hl => ?_)
    refine lv_aload_n hx hb d_Law_law_651 rfl (lv_at hl 4 rfl) ?_
    refine hv_call (hv_runV (As := []) (rest := []) (c_Model_thrown C hM7) (hv_cw C hZ kc_Model_thrown kn_Model ⟨rfl, rfl, Nat.le_of_ble_eq_true rfl, Nat.le_of_ble_eq_true rfl⟩) hv_blind (hv_pre hZ hS hP) hx hml hb hown (hts _ k_Law_65) (hts _ ki_Model_thrown) (hts _ ksel_Model_Model_thrown) hy_Model_thrown (hts _ kc_Model_thrown) (va_recv hK (hv_one hP h12) (ci := 7) (q0 := 0) rfl rfl) rfl hl.1 rfl (lv_room (Nat.le_of_ble_eq_true rfl)) d_Law_law_652 ⟨by show _ ≤ 601024; omega, by show _ ≤ 7293034; omega⟩) hZ hS (fun v9 w14 H locs q15 hP hS => ?_) (fun x9 w14 H locs q15 hP hS => q15.elim)
    obtain ⟨hv9, hw9⟩ := q15
    subst hv9
    rw [hw9] at hP
    show W _ _ _ _ _ _ _ _ _ _ _ _ _ _ _ (F0 m 655 ls [.int A7.thrown])
    refine lv_topi (fun v9 e9 => ?_)
    have e9 : v9 = nI ((x_done σ).2.1) := e9.trans (ht7)
    subst e9
    show W _ _ _ _ _ _ _ _ _ _ _ _ _ _ _ (F0 m 655 ls [.int (nI ((x_done σ).2.1))])
    refine lv_iload hx hb d_Law_law_655 (lv_at hl 1 rfl) ?_
    refine gk_icmp_eq (x := (x_done σ).2.1) (y := (x_done σ).2.1) (tgt := 662) hx hb d_Law_law_657 (by decide) (by omega) (by omega) (fun c657 => ?_) (fun c657 => ?_)
    · refine lv_iload hx hb d_Law_law_662 (lv_at hl 1 rfl) ?_
      refine gk_if_ne (x := (x_done σ).2.1) (tgt := 679) hx hb d_Law_law_664 (by decide) (by omega) (fun c664 => ?_) (fun c664 => ?_)
      · exact absurd hk9 c664
      · refine lv_aload_n hx hb d_Law_law_667 rfl (lv_at hl 5 rfl) ?_
        refine lv_iconst (v := 0) hx hb d_Law_law_668 (by decide) ?_
        refine va_lald hx hb hK (hv_one hP h13) 0 3 rfl rfl (vp_in_nI (n := 0) (by omega) (by omega)) d_Law_law_669 ?_
        rw [show Int32.toNatClampNeg 0 = 0 by decide]
        refine lv_topl (fun v9 e9 => ?_)
        have e9 : v9 = (x_done σ).2.2.toInt64 := e9.trans (m_uLs)
        subst e9
        show W _ _ _ _ _ _ _ _ _ _ _ _ _ _ _ (F0 m 670 ls [.long ((x_done σ).2.2.toInt64)])
        refine lv_iload hx hb d_Law_law_670 (lv_at hl 0 rfl) ?_
        refine lv_i2l (v := ((x_done σ).2.2).toInt64) hx hb d_Law_law_672 rfl ?_
        refine W.lcmp hx hb d_Law_law_673 ?_
        refine lv_if_eq (tgt := 679) hx hb d_Law_law_674 (by decide) (fun c674 => ?_) (fun c674 => ?_)
        · refine lv_goto (tgt := 1114) hx hb d_Law_law_679 (by decide) ?_
          refine W.widen (k := cells + 9) (n := slots + 69) (by omega) (by omega) ?_
          exact kk _ _ _ ⟨hgx1, hJ3⟩ _ _ _ hP hS (lv_sub hl [2, 3, 4, 5, 6] rfl)
        · exact absurd (g_lcmp_refl _) c674
    · exact absurd rfl c657

set_option maxHeartbeats 4000000 in
set_option maxRecDepth 100000 in
theorem lc_undo {p : Program} {l : Launch} {e : Env} {s : State} {m : MethodId} {below : List Frame} {meth : Method} {c : Code} {D : va_G} {ca : Nat → ClassId} {b n0 : Nat} {xs : Nat → Int32} {Q : State → Prop} (F : lF l s D ca p m c b n0 xs) {L K : Nat → Nat} {o9 i cells slots : Nat} (hi : i + 7 ≤ n0) (hcl : cells + 9 ≤ 601024) (hsl : slots + 69 ≤ 7293034) (kk : lKK p l e s m below meth c D ca L K o9 b i cells slots Q)
    {w : hv_W} {σ : gS} {f9 : Nat → Int64} (I : lI ca L K o9 σ f9 w) {H : Heap} {locs : List Loc} {ls : Array Slot} (hP : hv_P D classes s.heap.size w H) (hS : va_S (hv_A s.heap.size) s.heap H locs) (hl : lv_has ls 8 (lLoc b L K o9 i)) : W p l e room_1 s m #[Value.ref b] below meth c H locs cells slots Q (F0 m 682 ls []) := by
  obtain ⟨C, N, hx, hb, hml, hown, hts, hX, hbl, hn0⟩ := F
  have hK : va_K D classes (hv_tys ca) s := C.1
  have hZ : hv_Z s s := hv_Z.refl s
  have hbA : ¬ hv_A s.heap.size b := Nat.not_le.mpr hbl
  have hl : lv_has ls 8 [(0, .ref b), (1, .ref (L 0)), (2, .ref (K 0)), (3, .ref o9), (4, .int (nI i))] := hl
  obtain ⟨hgx, hJ⟩ := I
  have hW : gW σ := hgx.1
  obtain ⟨⟨P, hM, hR⟩, -, ho9, hap⟩ := id hJ
  have hlo : ¬ cM L o9 := hap.2.2.1
  have h0 : w (L 0) = some (.inr (0, [.ref (L 1), .ref (L 2), .ref (L 3), .ref (L 4), .ref (L 5), .ref (L 6), .ref (L 7), .int (σ.err), .int (nI σ.sc), .int (nI σ.ec), .int (σ.ins), .int (σ.off)])) := hM.1.2 0 (by decide)
  refine lv_aload_n hx hb d_Law_law_682 rfl (lv_at hl 1 rfl) ?_
  refine hv_call (hv_runV (As := []) (rest := []) (c_GK_undo C N  hM hR hW) (hv_cw C hZ kc_GK_undo kn_GK ⟨rfl, rfl, Nat.le_of_ble_eq_true rfl, Nat.le_of_ble_eq_true rfl⟩) hv_blind (hv_pre hZ hS hP) hx hml hb hown (hts _ k_Law_91) (hts _ ki_GK_undo) (hts _ ksel_GK_GK_undo) hy_GK_undo (hts _ kc_GK_undo) (va_recv hK (hv_one hP h0) (ci := 0) (q0 := 0) rfl rfl) rfl hl.1 rfl (lv_room (Nat.le_of_ble_eq_true rfl)) d_Law_law_683 ⟨by show _ ≤ 601024; omega, by show _ ≤ 7293034; omega⟩) hZ hS (fun v9 w1 H locs q2 hP hS => ?_) (fun x9 w1 H locs q2 hP hS => q2.elim)
  obtain ⟨hz9, hv9, hP9⟩ := q2
  subst hv9
  have hJ1 := hJ.cls hP9
  have hgx1 : gX (x_undo σ).1 := gX_undo hgx
  show W _ _ _ _ _ _ _ _ _ _ _ _ _ _ _ (F0 m 686 ls [.int ((x_undo σ).2.2)])
  obtain ⟨-, ⟨t8, A8, B8, hM8, hR8, -⟩, -, -⟩ := id hJ1
  have h3 : w1 (K 0) = some (.inr (7, [.int A8.thrown, .ref (K 1), .ref (K 2), .ref (K 3), .ref (K 4), .ref (K 5), .ref (K 6), .ref (K 7), .ref (K 8), .ref (K 9), .ref (K 10), .ref (K 11), .ref (K 12), .int (nI A8.tapeSize), .ref (K 13), .int A8.error, .int A8.off, .int A8.inside, .int (nI A8.changes), .int (nI A8.earlier), .int (nI A8.logged), .int A8.over, .int (nI A8.loose), .int A8.written, .int (nI A8.due)])) := hM8.1.2 0 (by decide)
  refine lv_aload_n hx hb d_Law_law_686 rfl (lv_at hl 2 rfl) ?_
  refine hv_call (hv_runV (As := []) (rest := [.int ((x_undo σ).2.2)]) (c_Model_undo C  hM8 hR8 hW) (hv_cw C hZ kc_Model_undo kn_Model ⟨rfl, rfl, Nat.le_of_ble_eq_true rfl, Nat.le_of_ble_eq_true rfl⟩) hv_blind (hv_pre hZ hS hP) hx hml hb hown (hts _ k_Law_94) (hts _ ki_Model_undo) (hts _ ksel_Model_Model_undo) hy_Model_undo (hts _ kc_Model_undo) (va_recv hK (hv_one hP h3) (ci := 7) (q0 := 0) rfl rfl) rfl hl.1 rfl (lv_room (Nat.le_of_ble_eq_true rfl)) d_Law_law_687 ⟨by show _ ≤ 601024; omega, by show _ ≤ 7293034; omega⟩) hZ hS (fun v9 w4 H locs q5 hP hS => ?_) (fun x9 w4 H locs q5 hP hS => q5.elim)
  obtain ⟨x8, hv8, hx8, hS8⟩ := q5
  subst hv8
  have hx8 := hx8 hz9
  subst hx8
  have hJ2 := hJ1.mod hgx1.1 hS8
  show W _ _ _ _ _ _ _ _ _ _ _ _ _ _ _ (F0 m 690 ls [.int ((x_undo σ).2.2), .int ((x_undo σ).2.2)])
  refine lv_icmp_eq (tgt := 1114) hx hb d_Law_law_690 (by decide) (fun c690 => ?_) (fun c690 => ?_)
  · refine W.widen (k := cells + 9) (n := slots + 69) (by omega) (by omega) ?_
    exact kk _ _ _ ⟨hgx1, hJ2⟩ _ _ _ hP hS (lv_sub hl [0, 1, 2, 3, 4] rfl)
  · exact absurd rfl c690

set_option maxHeartbeats 4000000 in
set_option maxRecDepth 100000 in
theorem lc_begin {p : Program} {l : Launch} {e : Env} {s : State} {m : MethodId} {below : List Frame} {meth : Method} {c : Code} {D : va_G} {ca : Nat → ClassId} {b n0 : Nat} {xs : Nat → Int32} {Q : State → Prop} (F : lF l s D ca p m c b n0 xs) {L K : Nat → Nat} {o9 i cells slots : Nat} (hi : i + 7 ≤ n0) (hcl : cells + 9 ≤ 601024) (hsl : slots + 69 ≤ 7293034) (kk : lKK p l e s m below meth c D ca L K o9 b i cells slots Q)
    {w : hv_W} {σ : gS} {f9 : Nat → Int64} (I : lI ca L K o9 σ f9 w) {H : Heap} {locs : List Loc} {ls : Array Slot} (hP : hv_P D classes s.heap.size w H) (hS : va_S (hv_A s.heap.size) s.heap H locs) (hl : lv_has ls 8 (lLoc b L K o9 i)) : W p l e room_1 s m #[Value.ref b] below meth c H locs cells slots Q (F0 m 695 ls []) := by
  obtain ⟨C, N, hx, hb, hml, hown, hts, hX, hbl, hn0⟩ := F
  have hK : va_K D classes (hv_tys ca) s := C.1
  have hZ : hv_Z s s := hv_Z.refl s
  have hbA : ¬ hv_A s.heap.size b := Nat.not_le.mpr hbl
  have hl : lv_has ls 8 [(0, .ref b), (1, .ref (L 0)), (2, .ref (K 0)), (3, .ref o9), (4, .int (nI i))] := hl
  obtain ⟨hgx, hJ⟩ := I
  have hW : gW σ := hgx.1
  obtain ⟨⟨P, hM, hR⟩, -, ho9, hap⟩ := id hJ
  have hlo : ¬ cM L o9 := hap.2.2.1
  have h0 : w (L 0) = some (.inr (0, [.ref (L 1), .ref (L 2), .ref (L 3), .ref (L 4), .ref (L 5), .ref (L 6), .ref (L 7), .int (σ.err), .int (nI σ.sc), .int (nI σ.ec), .int (σ.ins), .int (σ.off)])) := hM.1.2 0 (by decide)
  refine lv_aload_n hx hb d_Law_law_695 rfl (lv_at hl 1 rfl) ?_
  refine hv_call (hv_runV (As := []) (rest := []) (c_GK_begin C N  hM hR hW) (hv_cw C hZ kc_GK_begin kn_GK ⟨rfl, rfl, Nat.le_of_ble_eq_true rfl, Nat.le_of_ble_eq_true rfl⟩) hv_blind (hv_pre hZ hS hP) hx hml hb hown (hts _ k_Law_95) (hts _ ki_GK_begin) (hts _ ksel_GK_GK_begin) hy_GK_begin (hts _ kc_GK_begin) (va_recv hK (hv_one hP h0) (ci := 0) (q0 := 0) rfl rfl) rfl hl.1 rfl (lv_room (Nat.le_of_ble_eq_true rfl)) d_Law_law_696 ⟨by show _ ≤ 601024; omega, by show _ ≤ 7293034; omega⟩) hZ hS (fun v9 w1 H locs q2 hP hS => ?_) (fun x9 w1 H locs q2 hP hS => q2.elim)
  obtain ⟨hz9, hv9, hP9⟩ := q2
  subst hv9
  have hJ1 := hJ.cls hP9
  have hgx1 : gX (x_begin σ).1 := gX_begin hgx
  show W _ _ _ _ _ _ _ _ _ _ _ _ _ _ _ (F0 m 699 ls [.int ((x_begin σ).2.2)])
  obtain ⟨-, ⟨t8, A8, B8, hM8, hR8, -⟩, -, -⟩ := id hJ1
  have h3 : w1 (K 0) = some (.inr (7, [.int A8.thrown, .ref (K 1), .ref (K 2), .ref (K 3), .ref (K 4), .ref (K 5), .ref (K 6), .ref (K 7), .ref (K 8), .ref (K 9), .ref (K 10), .ref (K 11), .ref (K 12), .int (nI A8.tapeSize), .ref (K 13), .int A8.error, .int A8.off, .int A8.inside, .int (nI A8.changes), .int (nI A8.earlier), .int (nI A8.logged), .int A8.over, .int (nI A8.loose), .int A8.written, .int (nI A8.due)])) := hM8.1.2 0 (by decide)
  refine lv_aload_n hx hb d_Law_law_699 rfl (lv_at hl 2 rfl) ?_
  refine hv_call (hv_runV (As := []) (rest := [.int ((x_begin σ).2.2)]) (c_Model_begin C  hM8 hR8 hW) (hv_cw C hZ kc_Model_begin kn_Model ⟨rfl, rfl, Nat.le_of_ble_eq_true rfl, Nat.le_of_ble_eq_true rfl⟩) hv_blind (hv_pre hZ hS hP) hx hml hb hown (hts _ k_Law_99) (hts _ ki_Model_begin) (hts _ ksel_Model_Model_begin) hy_Model_begin (hts _ kc_Model_begin) (va_recv hK (hv_one hP h3) (ci := 7) (q0 := 0) rfl rfl) rfl hl.1 rfl (lv_room (Nat.le_of_ble_eq_true rfl)) d_Law_law_700 ⟨by show _ ≤ 601024; omega, by show _ ≤ 7293034; omega⟩) hZ hS (fun v9 w4 H locs q5 hP hS => ?_) (fun x9 w4 H locs q5 hP hS => q5.elim)
  obtain ⟨x8, hv8, hx8, hS8⟩ := q5
  subst hv8
  have hx8 := hx8 hz9
  subst hx8
  have hJ2 := hJ1.mod hgx1.1 hS8
  show W _ _ _ _ _ _ _ _ _ _ _ _ _ _ _ (F0 m 703 ls [.int ((x_begin σ).2.2), .int ((x_begin σ).2.2)])
  refine lv_icmp_eq (tgt := 1114) hx hb d_Law_law_703 (by decide) (fun c703 => ?_) (fun c703 => ?_)
  · refine W.widen (k := cells + 9) (n := slots + 69) (by omega) (by omega) ?_
    exact kk _ _ _ ⟨hgx1, hJ2⟩ _ _ _ hP hS (lv_sub hl [0, 1, 2, 3, 4] rfl)
  · exact absurd rfl c703

set_option maxHeartbeats 4000000 in
set_option maxRecDepth 100000 in
theorem lc_commit {p : Program} {l : Launch} {e : Env} {s : State} {m : MethodId} {below : List Frame} {meth : Method} {c : Code} {D : va_G} {ca : Nat → ClassId} {b n0 : Nat} {xs : Nat → Int32} {Q : State → Prop} (F : lF l s D ca p m c b n0 xs) {L K : Nat → Nat} {o9 i cells slots : Nat} (hi : i + 7 ≤ n0) (hcl : cells + 9 ≤ 601024) (hsl : slots + 69 ≤ 7293034) (kk : lKK p l e s m below meth c D ca L K o9 b i cells slots Q)
    {w : hv_W} {σ : gS} {f9 : Nat → Int64} (I : lI ca L K o9 σ f9 w) {H : Heap} {locs : List Loc} {ls : Array Slot} (hP : hv_P D classes s.heap.size w H) (hS : va_S (hv_A s.heap.size) s.heap H locs) (hl : lv_has ls 8 (lLoc b L K o9 i)) : W p l e room_1 s m #[Value.ref b] below meth c H locs cells slots Q (F0 m 708 ls []) := by
  obtain ⟨C, N, hx, hb, hml, hown, hts, hX, hbl, hn0⟩ := F
  have hK : va_K D classes (hv_tys ca) s := C.1
  have hZ : hv_Z s s := hv_Z.refl s
  have hbA : ¬ hv_A s.heap.size b := Nat.not_le.mpr hbl
  have hl : lv_has ls 8 [(0, .ref b), (1, .ref (L 0)), (2, .ref (K 0)), (3, .ref o9), (4, .int (nI i))] := hl
  obtain ⟨hgx, hJ⟩ := I
  have hW : gW σ := hgx.1
  obtain ⟨⟨P, hM, hR⟩, -, ho9, hap⟩ := id hJ
  have hlo : ¬ cM L o9 := hap.2.2.1
  have h0 : w (L 0) = some (.inr (0, [.ref (L 1), .ref (L 2), .ref (L 3), .ref (L 4), .ref (L 5), .ref (L 6), .ref (L 7), .int (σ.err), .int (nI σ.sc), .int (nI σ.ec), .int (σ.ins), .int (σ.off)])) := hM.1.2 0 (by decide)
  refine lv_aload_n hx hb d_Law_law_708 rfl (lv_at hl 1 rfl) ?_
  refine lv_aload_n hx hb d_Law_law_709 rfl (lv_at hl 3 rfl) ?_
  refine hv_call (hv_runS (As := [.ref (L 0), .ref o9]) (rest := []) (c_Law_commit C N  hM hR hW ho9 hlo) (hv_cwW C hZ kc_Law_commit kn_Law ⟨rfl, rfl, Nat.le_of_ble_eq_true rfl, Nat.le_of_ble_eq_true rfl⟩) hv_blind (hv_pre hZ hS hP) hx hml hb hown (hts _ k_Law_100) (hts _ ki_Law_commit) (hts _ kn_Law) hy_Law_commit (hv_sigW (hts _ kc_Law_commit)) rfl hl.1 rfl (lv_room (Nat.le_of_ble_eq_true rfl)) d_Law_law_710 ⟨by show _ ≤ 601024; omega, by show _ ≤ 7293034; omega⟩) hZ hS (fun v9 w1 H locs q2 hP hS => ?_) (fun x9 w1 H locs q2 hP hS => q2.elim)
  have hgx1 : gX (x_commit σ).1 := gX_commit hgx
  obtain ⟨hv9, hk2, w7, hP9, hcase⟩ := q2
  subst hv9
  have hJ1 := hJ.cls hP9
  rcases hcase with ⟨hk9, hw9⟩ | ⟨hk9, hw9⟩
  · have hJ2 : lJ ca L K o9 (x_commit σ).1 σ f9 w1 := by rw [hw9]; exact hJ1
    show W _ _ _ _ _ _ _ _ _ _ _ _ _ _ _ (F0 m 713 ls [.int (nI ((x_commit σ).2.1))])
    obtain ⟨-, ⟨t8, A8, B8, hM8, hR8, -⟩, -, -⟩ := id hJ2
    have h3 : w1 (K 0) = some (.inr (7, [.int A8.thrown, .ref (K 1), .ref (K 2), .ref (K 3), .ref (K 4), .ref (K 5), .ref (K 6), .ref (K 7), .ref (K 8), .ref (K 9), .ref (K 10), .ref (K 11), .ref (K 12), .int (nI A8.tapeSize), .ref (K 13), .int A8.error, .int A8.off, .int A8.inside, .int (nI A8.changes), .int (nI A8.earlier), .int (nI A8.logged), .int A8.over, .int (nI A8.loose), .int A8.written, .int (nI A8.due)])) := hM8.1.2 0 (by decide)
    refine lv_istore (lv' := [(5, .int (nI ((x_commit σ).2.1))), (0, .ref b), (1, .ref (L 0)), (2, .ref (K 0)), (3, .ref o9), (4, .int (nI i))]) hx hb d_Law_law_713 hl (by decide) rfl (fun ls hl => ?_)
    refine lv_aload_n hx hb d_Law_law_715 rfl (lv_at hl 3 rfl) ?_
    refine hv_call (hv_runV (As := []) (rest := []) (c_Model_commit C  hM8 hR8 hW) (hv_cw C hZ kc_Model_commit kn_Model ⟨rfl, rfl, Nat.le_of_ble_eq_true rfl, Nat.le_of_ble_eq_true rfl⟩) hv_blind (hv_pre hZ hS hP) hx hml hb hown (hts _ k_Law_102) (hts _ ki_Model_commit) (hts _ ksel_Model_Model_commit) hy_Model_commit (hts _ kc_Model_commit) (va_recv hK (hv_one hP h3) (ci := 7) (q0 := 0) rfl rfl) rfl hl.1 rfl (lv_room (Nat.le_of_ble_eq_true rfl)) d_Law_law_716 ⟨by show _ ≤ 601024; omega, by show _ ≤ 7293034; omega⟩) hZ hS (fun v9 w4 H locs q5 hP hS => ?_) (fun x9 w4 H locs q5 hP hS => q5.elim)
    obtain ⟨x8, hv8, hx8, hS8⟩ := q5
    subst hv8
    have hJ3 := hJ2.mod hgx1.1 hS8
    show W _ _ _ _ _ _ _ _ _ _ _ _ _ _ _ (F0 m 719 ls [.int x8])
    obtain ⟨A7, B7, hM7, hR7, ht7⟩ := id hS8
    have h6 : w4 (K 0) = some (.inr (7, [.int A7.thrown, .ref (K 1), .ref (K 2), .ref (K 3), .ref (K 4), .ref (K 5), .ref (K 6), .ref (K 7), .ref (K 8), .ref (K 9), .ref (K 10), .ref (K 11), .ref (K 12), .int (nI A7.tapeSize), .ref (K 13), .int A7.error, .int A7.off, .int A7.inside, .int (nI A7.changes), .int (nI A7.earlier), .int (nI A7.logged), .int A7.over, .int (nI A7.loose), .int A7.written, .int (nI A7.due)])) := hM7.1.2 0 (by decide)
    refine lv_istore (lv' := [(6, .int x8), (5, .int (nI ((x_commit σ).2.1))), (0, .ref b), (1, .ref (L 0)), (2, .ref (K 0)), (3, .ref o9), (4, .int (nI i))]) hx hb d_Law_law_719 hl (by decide) rfl (fun ls hl => ?_)
    refine lv_aload_n hx hb d_Law_law_721 rfl (lv_at hl 4 rfl) ?_
    refine hv_call (hv_runV (As := []) (rest := []) (c_Model_thrown C hM7) (hv_cw C hZ kc_Model_thrown kn_Model ⟨rfl, rfl, Nat.le_of_ble_eq_true rfl, Nat.le_of_ble_eq_true rfl⟩) hv_blind (hv_pre hZ hS hP) hx hml hb hown (hts _ k_Law_65) (hts _ ki_Model_thrown) (hts _ ksel_Model_Model_thrown) hy_Model_thrown (hts _ kc_Model_thrown) (va_recv hK (hv_one hP h6) (ci := 7) (q0 := 0) rfl rfl) rfl hl.1 rfl (lv_room (Nat.le_of_ble_eq_true rfl)) d_Law_law_722 ⟨by show _ ≤ 601024; omega, by show _ ≤ 7293034; omega⟩) hZ hS (fun v9 w7 H locs q8 hP hS => ?_) (fun x9 w7 H locs q8 hP hS => q8.elim)
    obtain ⟨hv9, hw9⟩ := q8
    subst hv9
    rw [hw9] at hP
    show W _ _ _ _ _ _ _ _ _ _ _ _ _ _ _ (F0 m 725 ls [.int A7.thrown])
    refine lv_topi (fun v9 e9 => ?_)
    have e9 : v9 = nI ((x_commit σ).2.1) := e9.trans (ht7)
    subst e9
    show W _ _ _ _ _ _ _ _ _ _ _ _ _ _ _ (F0 m 725 ls [.int (nI ((x_commit σ).2.1))])
    refine lv_iload hx hb d_Law_law_725 (lv_at hl 1 rfl) ?_
    refine gk_icmp_eq (x := (x_commit σ).2.1) (y := (x_commit σ).2.1) (tgt := 732) hx hb d_Law_law_727 (by decide) (by omega) (by omega) (fun c727 => ?_) (fun c727 => ?_)
    · refine lv_iload hx hb d_Law_law_732 (lv_at hl 1 rfl) ?_
      refine gk_if_ne (x := (x_commit σ).2.1) (tgt := 749) hx hb d_Law_law_734 (by decide) (by omega) (fun c734 => ?_) (fun c734 => ?_)
      · refine lv_goto (tgt := 1114) hx hb d_Law_law_749 (by decide) ?_
        refine W.widen (k := cells + 9) (n := slots + 69) (by omega) (by omega) ?_
        exact kk _ _ _ ⟨hgx1, hJ3⟩ _ _ _ hP hS (lv_sub hl [2, 3, 4, 5, 6] rfl)
      · exact absurd c734 hk9
    · exact absurd rfl c727
  · have hJ2 : lJ ca L K o9 (x_commit σ).1 σ (vp_updL f9 0 ((x_commit σ).2.2.toInt64)) w1 := by rw [hw9]; exact hJ1.out hgx1.1
    show W _ _ _ _ _ _ _ _ _ _ _ _ _ _ _ (F0 m 713 ls [.int (nI ((x_commit σ).2.1))])
    obtain ⟨-, ⟨t8, A8, B8, hM8, hR8, -⟩, -, -⟩ := id hJ2
    have h9 : w1 (K 0) = some (.inr (7, [.int A8.thrown, .ref (K 1), .ref (K 2), .ref (K 3), .ref (K 4), .ref (K 5), .ref (K 6), .ref (K 7), .ref (K 8), .ref (K 9), .ref (K 10), .ref (K 11), .ref (K 12), .int (nI A8.tapeSize), .ref (K 13), .int A8.error, .int A8.off, .int A8.inside, .int (nI A8.changes), .int (nI A8.earlier), .int (nI A8.logged), .int A8.over, .int (nI A8.loose), .int A8.written, .int (nI A8.due)])) := hM8.1.2 0 (by decide)
    refine lv_istore (lv' := [(5, .int (nI ((x_commit σ).2.1))), (0, .ref b), (1, .ref (L 0)), (2, .ref (K 0)), (3, .ref o9), (4, .int (nI i))]) hx hb d_Law_law_713 hl (by decide) rfl (fun ls hl => ?_)
    refine lv_aload_n hx hb d_Law_law_715 rfl (lv_at hl 3 rfl) ?_
    refine hv_call (hv_runV (As := []) (rest := []) (c_Model_commit C  hM8 hR8 hW) (hv_cw C hZ kc_Model_commit kn_Model ⟨rfl, rfl, Nat.le_of_ble_eq_true rfl, Nat.le_of_ble_eq_true rfl⟩) hv_blind (hv_pre hZ hS hP) hx hml hb hown (hts _ k_Law_102) (hts _ ki_Model_commit) (hts _ ksel_Model_Model_commit) hy_Model_commit (hts _ kc_Model_commit) (va_recv hK (hv_one hP h9) (ci := 7) (q0 := 0) rfl rfl) rfl hl.1 rfl (lv_room (Nat.le_of_ble_eq_true rfl)) d_Law_law_716 ⟨by show _ ≤ 601024; omega, by show _ ≤ 7293034; omega⟩) hZ hS (fun v9 w10 H locs q11 hP hS => ?_) (fun x9 w10 H locs q11 hP hS => q11.elim)
    obtain ⟨x8, hv8, hx8, hS8⟩ := q11
    subst hv8
    have hx8 := hx8 hk9
    subst hx8
    have hJ3 := hJ2.mod hgx1.1 hS8
    show W _ _ _ _ _ _ _ _ _ _ _ _ _ _ _ (F0 m 719 ls [.int ((x_commit σ).2.2)])
    obtain ⟨A7, B7, hM7, hR7, ht7⟩ := id hS8
    have h12 : w10 (K 0) = some (.inr (7, [.int A7.thrown, .ref (K 1), .ref (K 2), .ref (K 3), .ref (K 4), .ref (K 5), .ref (K 6), .ref (K 7), .ref (K 8), .ref (K 9), .ref (K 10), .ref (K 11), .ref (K 12), .int (nI A7.tapeSize), .ref (K 13), .int A7.error, .int A7.off, .int A7.inside, .int (nI A7.changes), .int (nI A7.earlier), .int (nI A7.logged), .int A7.over, .int (nI A7.loose), .int A7.written, .int (nI A7.due)])) := hM7.1.2 0 (by decide)
    have h13 : w10 o9 = some (.inl (ca 3, 1, .inr (.inl (vp_updL f9 0 ((x_commit σ).2.2.toInt64))))) := hJ3.2.2.1
    refine lv_istore (lv' := [(6, .int ((x_commit σ).2.2)), (5, .int (nI ((x_commit σ).2.1))), (0, .ref b), (1, .ref (L 0)), (2, .ref (K 0)), (3, .ref o9), (4, .int (nI i))]) hx hb d_Law_law_719 hl (by decide) rfl (fun ls hl => ?_)
    refine lv_aload_n hx hb d_Law_law_721 rfl (lv_at hl 4 rfl) ?_
    refine hv_call (hv_runV (As := []) (rest := []) (c_Model_thrown C hM7) (hv_cw C hZ kc_Model_thrown kn_Model ⟨rfl, rfl, Nat.le_of_ble_eq_true rfl, Nat.le_of_ble_eq_true rfl⟩) hv_blind (hv_pre hZ hS hP) hx hml hb hown (hts _ k_Law_65) (hts _ ki_Model_thrown) (hts _ ksel_Model_Model_thrown) hy_Model_thrown (hts _ kc_Model_thrown) (va_recv hK (hv_one hP h12) (ci := 7) (q0 := 0) rfl rfl) rfl hl.1 rfl (lv_room (Nat.le_of_ble_eq_true rfl)) d_Law_law_722 ⟨by show _ ≤ 601024; omega, by show _ ≤ 7293034; omega⟩) hZ hS (fun v9 w14 H locs q15 hP hS => ?_) (fun x9 w14 H locs q15 hP hS => q15.elim)
    obtain ⟨hv9, hw9⟩ := q15
    subst hv9
    rw [hw9] at hP
    show W _ _ _ _ _ _ _ _ _ _ _ _ _ _ _ (F0 m 725 ls [.int A7.thrown])
    refine lv_topi (fun v9 e9 => ?_)
    have e9 : v9 = nI ((x_commit σ).2.1) := e9.trans (ht7)
    subst e9
    show W _ _ _ _ _ _ _ _ _ _ _ _ _ _ _ (F0 m 725 ls [.int (nI ((x_commit σ).2.1))])
    refine lv_iload hx hb d_Law_law_725 (lv_at hl 1 rfl) ?_
    refine gk_icmp_eq (x := (x_commit σ).2.1) (y := (x_commit σ).2.1) (tgt := 732) hx hb d_Law_law_727 (by decide) (by omega) (by omega) (fun c727 => ?_) (fun c727 => ?_)
    · refine lv_iload hx hb d_Law_law_732 (lv_at hl 1 rfl) ?_
      refine gk_if_ne (x := (x_commit σ).2.1) (tgt := 749) hx hb d_Law_law_734 (by decide) (by omega) (fun c734 => ?_) (fun c734 => ?_)
      · exact absurd hk9 c734
      · refine lv_aload_n hx hb d_Law_law_737 rfl (lv_at hl 5 rfl) ?_
        refine lv_iconst (v := 0) hx hb d_Law_law_738 (by decide) ?_
        refine va_lald hx hb hK (hv_one hP h13) 0 3 rfl rfl (vp_in_nI (n := 0) (by omega) (by omega)) d_Law_law_739 ?_
        rw [show Int32.toNatClampNeg 0 = 0 by decide]
        refine lv_topl (fun v9 e9 => ?_)
        have e9 : v9 = (x_commit σ).2.2.toInt64 := e9.trans (m_uLs)
        subst e9
        show W _ _ _ _ _ _ _ _ _ _ _ _ _ _ _ (F0 m 740 ls [.long ((x_commit σ).2.2.toInt64)])
        refine lv_iload hx hb d_Law_law_740 (lv_at hl 0 rfl) ?_
        refine lv_i2l (v := ((x_commit σ).2.2).toInt64) hx hb d_Law_law_742 rfl ?_
        refine W.lcmp hx hb d_Law_law_743 ?_
        refine lv_if_eq (tgt := 749) hx hb d_Law_law_744 (by decide) (fun c744 => ?_) (fun c744 => ?_)
        · refine lv_goto (tgt := 1114) hx hb d_Law_law_749 (by decide) ?_
          refine W.widen (k := cells + 9) (n := slots + 69) (by omega) (by omega) ?_
          exact kk _ _ _ ⟨hgx1, hJ3⟩ _ _ _ hP hS (lv_sub hl [2, 3, 4, 5, 6] rfl)
        · exact absurd (g_lcmp_refl _) c744
    · exact absurd rfl c727

set_option maxHeartbeats 4000000 in
set_option maxRecDepth 100000 in
theorem lc_rollback {p : Program} {l : Launch} {e : Env} {s : State} {m : MethodId} {below : List Frame} {meth : Method} {c : Code} {D : va_G} {ca : Nat → ClassId} {b n0 : Nat} {xs : Nat → Int32} {Q : State → Prop} (F : lF l s D ca p m c b n0 xs) {L K : Nat → Nat} {o9 i cells slots : Nat} (hi : i + 7 ≤ n0) (hcl : cells + 9 ≤ 601024) (hsl : slots + 69 ≤ 7293034) (kk : lKK p l e s m below meth c D ca L K o9 b i cells slots Q)
    {w : hv_W} {σ : gS} {f9 : Nat → Int64} (I : lI ca L K o9 σ f9 w) {H : Heap} {locs : List Loc} {ls : Array Slot} (hP : hv_P D classes s.heap.size w H) (hS : va_S (hv_A s.heap.size) s.heap H locs) (hl : lv_has ls 8 (lLoc b L K o9 i)) : W p l e room_1 s m #[Value.ref b] below meth c H locs cells slots Q (F0 m 752 ls []) := by
  obtain ⟨C, N, hx, hb, hml, hown, hts, hX, hbl, hn0⟩ := F
  have hK : va_K D classes (hv_tys ca) s := C.1
  have hZ : hv_Z s s := hv_Z.refl s
  have hbA : ¬ hv_A s.heap.size b := Nat.not_le.mpr hbl
  have hl : lv_has ls 8 [(0, .ref b), (1, .ref (L 0)), (2, .ref (K 0)), (3, .ref o9), (4, .int (nI i))] := hl
  obtain ⟨hgx, hJ⟩ := I
  have hW : gW σ := hgx.1
  obtain ⟨⟨P, hM, hR⟩, -, ho9, hap⟩ := id hJ
  have hlo : ¬ cM L o9 := hap.2.2.1
  have h0 : w (L 0) = some (.inr (0, [.ref (L 1), .ref (L 2), .ref (L 3), .ref (L 4), .ref (L 5), .ref (L 6), .ref (L 7), .int (σ.err), .int (nI σ.sc), .int (nI σ.ec), .int (σ.ins), .int (σ.off)])) := hM.1.2 0 (by decide)
  refine lv_aload_n hx hb d_Law_law_752 rfl (lv_at hl 1 rfl) ?_
  refine hv_call (hv_runV (As := []) (rest := []) (c_GK_rollback C N  hM hR hW) (hv_cw C hZ kc_GK_rollback kn_GK ⟨rfl, rfl, Nat.le_of_ble_eq_true rfl, Nat.le_of_ble_eq_true rfl⟩) hv_blind (hv_pre hZ hS hP) hx hml hb hown (hts _ k_Law_103) (hts _ ki_GK_rollback) (hts _ ksel_GK_GK_rollback) hy_GK_rollback (hts _ kc_GK_rollback) (va_recv hK (hv_one hP h0) (ci := 0) (q0 := 0) rfl rfl) rfl hl.1 rfl (lv_room (Nat.le_of_ble_eq_true rfl)) d_Law_law_753 ⟨by show _ ≤ 601024; omega, by show _ ≤ 7293034; omega⟩) hZ hS (fun v9 w1 H locs q2 hP hS => ?_) (fun x9 w1 H locs q2 hP hS => q2.elim)
  obtain ⟨hz9, hv9, hP9⟩ := q2
  subst hv9
  have hJ1 := hJ.cls hP9
  have hgx1 : gX (x_rollback σ).1 := gX_rollback hgx
  show W _ _ _ _ _ _ _ _ _ _ _ _ _ _ _ (F0 m 756 ls [.int ((x_rollback σ).2.2)])
  obtain ⟨-, ⟨t8, A8, B8, hM8, hR8, -⟩, -, -⟩ := id hJ1
  have h3 : w1 (K 0) = some (.inr (7, [.int A8.thrown, .ref (K 1), .ref (K 2), .ref (K 3), .ref (K 4), .ref (K 5), .ref (K 6), .ref (K 7), .ref (K 8), .ref (K 9), .ref (K 10), .ref (K 11), .ref (K 12), .int (nI A8.tapeSize), .ref (K 13), .int A8.error, .int A8.off, .int A8.inside, .int (nI A8.changes), .int (nI A8.earlier), .int (nI A8.logged), .int A8.over, .int (nI A8.loose), .int A8.written, .int (nI A8.due)])) := hM8.1.2 0 (by decide)
  refine lv_aload_n hx hb d_Law_law_756 rfl (lv_at hl 2 rfl) ?_
  refine hv_call (hv_runV (As := []) (rest := [.int ((x_rollback σ).2.2)]) (c_Model_rollback C  hM8 hR8 hW) (hv_cw C hZ kc_Model_rollback kn_Model ⟨rfl, rfl, Nat.le_of_ble_eq_true rfl, Nat.le_of_ble_eq_true rfl⟩) hv_blind (hv_pre hZ hS hP) hx hml hb hown (hts _ k_Law_106) (hts _ ki_Model_rollback) (hts _ ksel_Model_Model_rollback) hy_Model_rollback (hts _ kc_Model_rollback) (va_recv hK (hv_one hP h3) (ci := 7) (q0 := 0) rfl rfl) rfl hl.1 rfl (lv_room (Nat.le_of_ble_eq_true rfl)) d_Law_law_757 ⟨by show _ ≤ 601024; omega, by show _ ≤ 7293034; omega⟩) hZ hS (fun v9 w4 H locs q5 hP hS => ?_) (fun x9 w4 H locs q5 hP hS => q5.elim)
  obtain ⟨x8, hv8, hx8, hS8⟩ := q5
  subst hv8
  have hx8 := hx8 hz9
  subst hx8
  have hJ2 := hJ1.mod hgx1.1 hS8
  show W _ _ _ _ _ _ _ _ _ _ _ _ _ _ _ (F0 m 760 ls [.int ((x_rollback σ).2.2), .int ((x_rollback σ).2.2)])
  refine lv_icmp_eq (tgt := 1114) hx hb d_Law_law_760 (by decide) (fun c760 => ?_) (fun c760 => ?_)
  · refine W.widen (k := cells + 9) (n := slots + 69) (by omega) (by omega) ?_
    exact kk _ _ _ ⟨hgx1, hJ2⟩ _ _ _ hP hS (lv_sub hl [0, 1, 2, 3, 4] rfl)
  · exact absurd rfl c760

set_option maxHeartbeats 4000000 in
set_option maxRecDepth 100000 in
theorem lc_checkpoint {p : Program} {l : Launch} {e : Env} {s : State} {m : MethodId} {below : List Frame} {meth : Method} {c : Code} {D : va_G} {ca : Nat → ClassId} {b n0 : Nat} {xs : Nat → Int32} {Q : State → Prop} (F : lF l s D ca p m c b n0 xs) {L K : Nat → Nat} {o9 i cells slots : Nat} (hi : i + 7 ≤ n0) (hcl : cells + 9 ≤ 601024) (hsl : slots + 69 ≤ 7293034) (kk : lKK p l e s m below meth c D ca L K o9 b i cells slots Q)
    {w : hv_W} {σ : gS} {f9 : Nat → Int64} (I : lI ca L K o9 σ f9 w) {H : Heap} {locs : List Loc} {ls : Array Slot} (hP : hv_P D classes s.heap.size w H) (hS : va_S (hv_A s.heap.size) s.heap H locs) (hl : lv_has ls 8 (lLoc b L K o9 i)) : W p l e room_1 s m #[Value.ref b] below meth c H locs cells slots Q (F0 m 765 ls []) := by
  obtain ⟨C, N, hx, hb, hml, hown, hts, hX, hbl, hn0⟩ := F
  have hK : va_K D classes (hv_tys ca) s := C.1
  have hZ : hv_Z s s := hv_Z.refl s
  have hbA : ¬ hv_A s.heap.size b := Nat.not_le.mpr hbl
  have hl : lv_has ls 8 [(0, .ref b), (1, .ref (L 0)), (2, .ref (K 0)), (3, .ref o9), (4, .int (nI i))] := hl
  obtain ⟨hgx, hJ⟩ := I
  have hW : gW σ := hgx.1
  obtain ⟨⟨P, hM, hR⟩, -, ho9, hap⟩ := id hJ
  have hlo : ¬ cM L o9 := hap.2.2.1
  have h0 : w (L 0) = some (.inr (0, [.ref (L 1), .ref (L 2), .ref (L 3), .ref (L 4), .ref (L 5), .ref (L 6), .ref (L 7), .int (σ.err), .int (nI σ.sc), .int (nI σ.ec), .int (σ.ins), .int (σ.off)])) := hM.1.2 0 (by decide)
  refine lv_aload_n hx hb d_Law_law_765 rfl (lv_at hl 1 rfl) ?_
  refine lv_aload_n hx hb d_Law_law_766 rfl (lv_at hl 3 rfl) ?_
  refine hv_call (hv_runS (As := [.ref (L 0), .ref o9]) (rest := []) (c_Law_checkpoint C N  hM hR hW ho9 hlo) (hv_cwW C hZ kc_Law_checkpoint kn_Law ⟨rfl, rfl, Nat.le_of_ble_eq_true rfl, Nat.le_of_ble_eq_true rfl⟩) hv_blind (hv_pre hZ hS hP) hx hml hb hown (hts _ k_Law_107) (hts _ ki_Law_checkpoint) (hts _ kn_Law) hy_Law_checkpoint (hv_sigW (hts _ kc_Law_checkpoint)) rfl hl.1 rfl (lv_room (Nat.le_of_ble_eq_true rfl)) d_Law_law_767 ⟨by show _ ≤ 601024; omega, by show _ ≤ 7293034; omega⟩) hZ hS (fun v9 w1 H locs q2 hP hS => ?_) (fun x9 w1 H locs q2 hP hS => q2.elim)
  have hgx1 : gX (x_checkpoint σ).1 := gX_checkpoint hgx
  obtain ⟨hv9, hk2, w7, hP9, hcase⟩ := q2
  subst hv9
  have hJ1 := hJ.cls hP9
  rcases hcase with ⟨hk9, hw9⟩ | ⟨hk9, hw9⟩
  · have hJ2 : lJ ca L K o9 (x_checkpoint σ).1 σ f9 w1 := by rw [hw9]; exact hJ1
    show W _ _ _ _ _ _ _ _ _ _ _ _ _ _ _ (F0 m 770 ls [.int (nI ((x_checkpoint σ).2.1))])
    obtain ⟨-, ⟨t8, A8, B8, hM8, hR8, -⟩, -, -⟩ := id hJ2
    have h3 : w1 (K 0) = some (.inr (7, [.int A8.thrown, .ref (K 1), .ref (K 2), .ref (K 3), .ref (K 4), .ref (K 5), .ref (K 6), .ref (K 7), .ref (K 8), .ref (K 9), .ref (K 10), .ref (K 11), .ref (K 12), .int (nI A8.tapeSize), .ref (K 13), .int A8.error, .int A8.off, .int A8.inside, .int (nI A8.changes), .int (nI A8.earlier), .int (nI A8.logged), .int A8.over, .int (nI A8.loose), .int A8.written, .int (nI A8.due)])) := hM8.1.2 0 (by decide)
    refine lv_istore (lv' := [(5, .int (nI ((x_checkpoint σ).2.1))), (0, .ref b), (1, .ref (L 0)), (2, .ref (K 0)), (3, .ref o9), (4, .int (nI i))]) hx hb d_Law_law_770 hl (by decide) rfl (fun ls hl => ?_)
    refine lv_aload_n hx hb d_Law_law_772 rfl (lv_at hl 3 rfl) ?_
    refine hv_call (hv_runV (As := []) (rest := []) (c_Model_checkpoint C  hM8 hR8 hW) (hv_cw C hZ kc_Model_checkpoint kn_Model ⟨rfl, rfl, Nat.le_of_ble_eq_true rfl, Nat.le_of_ble_eq_true rfl⟩) hv_blind (hv_pre hZ hS hP) hx hml hb hown (hts _ k_Law_109) (hts _ ki_Model_checkpoint) (hts _ ksel_Model_Model_checkpoint) hy_Model_checkpoint (hts _ kc_Model_checkpoint) (va_recv hK (hv_one hP h3) (ci := 7) (q0 := 0) rfl rfl) rfl hl.1 rfl (lv_room (Nat.le_of_ble_eq_true rfl)) d_Law_law_773 ⟨by show _ ≤ 601024; omega, by show _ ≤ 7293034; omega⟩) hZ hS (fun v9 w4 H locs q5 hP hS => ?_) (fun x9 w4 H locs q5 hP hS => q5.elim)
    obtain ⟨x8, hv8, hx8, hS8⟩ := q5
    subst hv8
    have hJ3 := hJ2.mod hgx1.1 hS8
    show W _ _ _ _ _ _ _ _ _ _ _ _ _ _ _ (F0 m 776 ls [.int x8])
    obtain ⟨A7, B7, hM7, hR7, ht7⟩ := id hS8
    have h6 : w4 (K 0) = some (.inr (7, [.int A7.thrown, .ref (K 1), .ref (K 2), .ref (K 3), .ref (K 4), .ref (K 5), .ref (K 6), .ref (K 7), .ref (K 8), .ref (K 9), .ref (K 10), .ref (K 11), .ref (K 12), .int (nI A7.tapeSize), .ref (K 13), .int A7.error, .int A7.off, .int A7.inside, .int (nI A7.changes), .int (nI A7.earlier), .int (nI A7.logged), .int A7.over, .int (nI A7.loose), .int A7.written, .int (nI A7.due)])) := hM7.1.2 0 (by decide)
    refine lv_istore (lv' := [(6, .int x8), (5, .int (nI ((x_checkpoint σ).2.1))), (0, .ref b), (1, .ref (L 0)), (2, .ref (K 0)), (3, .ref o9), (4, .int (nI i))]) hx hb d_Law_law_776 hl (by decide) rfl (fun ls hl => ?_)
    refine lv_aload_n hx hb d_Law_law_778 rfl (lv_at hl 4 rfl) ?_
    refine hv_call (hv_runV (As := []) (rest := []) (c_Model_thrown C hM7) (hv_cw C hZ kc_Model_thrown kn_Model ⟨rfl, rfl, Nat.le_of_ble_eq_true rfl, Nat.le_of_ble_eq_true rfl⟩) hv_blind (hv_pre hZ hS hP) hx hml hb hown (hts _ k_Law_65) (hts _ ki_Model_thrown) (hts _ ksel_Model_Model_thrown) hy_Model_thrown (hts _ kc_Model_thrown) (va_recv hK (hv_one hP h6) (ci := 7) (q0 := 0) rfl rfl) rfl hl.1 rfl (lv_room (Nat.le_of_ble_eq_true rfl)) d_Law_law_779 ⟨by show _ ≤ 601024; omega, by show _ ≤ 7293034; omega⟩) hZ hS (fun v9 w7 H locs q8 hP hS => ?_) (fun x9 w7 H locs q8 hP hS => q8.elim)
    obtain ⟨hv9, hw9⟩ := q8
    subst hv9
    rw [hw9] at hP
    show W _ _ _ _ _ _ _ _ _ _ _ _ _ _ _ (F0 m 782 ls [.int A7.thrown])
    refine lv_topi (fun v9 e9 => ?_)
    have e9 : v9 = nI ((x_checkpoint σ).2.1) := e9.trans (ht7)
    subst e9
    show W _ _ _ _ _ _ _ _ _ _ _ _ _ _ _ (F0 m 782 ls [.int (nI ((x_checkpoint σ).2.1))])
    refine lv_iload hx hb d_Law_law_782 (lv_at hl 1 rfl) ?_
    refine gk_icmp_eq (x := (x_checkpoint σ).2.1) (y := (x_checkpoint σ).2.1) (tgt := 789) hx hb d_Law_law_784 (by decide) (by omega) (by omega) (fun c784 => ?_) (fun c784 => ?_)
    · refine lv_iload hx hb d_Law_law_789 (lv_at hl 1 rfl) ?_
      refine gk_if_ne (x := (x_checkpoint σ).2.1) (tgt := 806) hx hb d_Law_law_791 (by decide) (by omega) (fun c791 => ?_) (fun c791 => ?_)
      · refine lv_goto (tgt := 1114) hx hb d_Law_law_806 (by decide) ?_
        refine W.widen (k := cells + 9) (n := slots + 69) (by omega) (by omega) ?_
        exact kk _ _ _ ⟨hgx1, hJ3⟩ _ _ _ hP hS (lv_sub hl [2, 3, 4, 5, 6] rfl)
      · exact absurd c791 hk9
    · exact absurd rfl c784
  · have hJ2 : lJ ca L K o9 (x_checkpoint σ).1 σ (vp_updL f9 0 ((x_checkpoint σ).2.2.toInt64)) w1 := by rw [hw9]; exact hJ1.out hgx1.1
    show W _ _ _ _ _ _ _ _ _ _ _ _ _ _ _ (F0 m 770 ls [.int (nI ((x_checkpoint σ).2.1))])
    obtain ⟨-, ⟨t8, A8, B8, hM8, hR8, -⟩, -, -⟩ := id hJ2
    have h9 : w1 (K 0) = some (.inr (7, [.int A8.thrown, .ref (K 1), .ref (K 2), .ref (K 3), .ref (K 4), .ref (K 5), .ref (K 6), .ref (K 7), .ref (K 8), .ref (K 9), .ref (K 10), .ref (K 11), .ref (K 12), .int (nI A8.tapeSize), .ref (K 13), .int A8.error, .int A8.off, .int A8.inside, .int (nI A8.changes), .int (nI A8.earlier), .int (nI A8.logged), .int A8.over, .int (nI A8.loose), .int A8.written, .int (nI A8.due)])) := hM8.1.2 0 (by decide)
    refine lv_istore (lv' := [(5, .int (nI ((x_checkpoint σ).2.1))), (0, .ref b), (1, .ref (L 0)), (2, .ref (K 0)), (3, .ref o9), (4, .int (nI i))]) hx hb d_Law_law_770 hl (by decide) rfl (fun ls hl => ?_)
    refine lv_aload_n hx hb d_Law_law_772 rfl (lv_at hl 3 rfl) ?_
    refine hv_call (hv_runV (As := []) (rest := []) (c_Model_checkpoint C  hM8 hR8 hW) (hv_cw C hZ kc_Model_checkpoint kn_Model ⟨rfl, rfl, Nat.le_of_ble_eq_true rfl, Nat.le_of_ble_eq_true rfl⟩) hv_blind (hv_pre hZ hS hP) hx hml hb hown (hts _ k_Law_109) (hts _ ki_Model_checkpoint) (hts _ ksel_Model_Model_checkpoint) hy_Model_checkpoint (hts _ kc_Model_checkpoint) (va_recv hK (hv_one hP h9) (ci := 7) (q0 := 0) rfl rfl) rfl hl.1 rfl (lv_room (Nat.le_of_ble_eq_true rfl)) d_Law_law_773 ⟨by show _ ≤ 601024; omega, by show _ ≤ 7293034; omega⟩) hZ hS (fun v9 w10 H locs q11 hP hS => ?_) (fun x9 w10 H locs q11 hP hS => q11.elim)
    obtain ⟨x8, hv8, hx8, hS8⟩ := q11
    subst hv8
    have hx8 := hx8 hk9
    subst hx8
    have hJ3 := hJ2.mod hgx1.1 hS8
    show W _ _ _ _ _ _ _ _ _ _ _ _ _ _ _ (F0 m 776 ls [.int ((x_checkpoint σ).2.2)])
    obtain ⟨A7, B7, hM7, hR7, ht7⟩ := id hS8
    have h12 : w10 (K 0) = some (.inr (7, [.int A7.thrown, .ref (K 1), .ref (K 2), .ref (K 3), .ref (K 4), .ref (K 5), .ref (K 6), .ref (K 7), .ref (K 8), .ref (K 9), .ref (K 10), .ref (K 11), .ref (K 12), .int (nI A7.tapeSize), .ref (K 13), .int A7.error, .int A7.off, .int A7.inside, .int (nI A7.changes), .int (nI A7.earlier), .int (nI A7.logged), .int A7.over, .int (nI A7.loose), .int A7.written, .int (nI A7.due)])) := hM7.1.2 0 (by decide)
    have h13 : w10 o9 = some (.inl (ca 3, 1, .inr (.inl (vp_updL f9 0 ((x_checkpoint σ).2.2.toInt64))))) := hJ3.2.2.1
    refine lv_istore (lv' := [(6, .int ((x_checkpoint σ).2.2)), (5, .int (nI ((x_checkpoint σ).2.1))), (0, .ref b), (1, .ref (L 0)), (2, .ref (K 0)), (3, .ref o9), (4, .int (nI i))]) hx hb d_Law_law_776 hl (by decide) rfl (fun ls hl => ?_)
    refine lv_aload_n hx hb d_Law_law_778 rfl (lv_at hl 4 rfl) ?_
    refine hv_call (hv_runV (As := []) (rest := []) (c_Model_thrown C hM7) (hv_cw C hZ kc_Model_thrown kn_Model ⟨rfl, rfl, Nat.le_of_ble_eq_true rfl, Nat.le_of_ble_eq_true rfl⟩) hv_blind (hv_pre hZ hS hP) hx hml hb hown (hts _ k_Law_65) (hts _ ki_Model_thrown) (hts _ ksel_Model_Model_thrown) hy_Model_thrown (hts _ kc_Model_thrown) (va_recv hK (hv_one hP h12) (ci := 7) (q0 := 0) rfl rfl) rfl hl.1 rfl (lv_room (Nat.le_of_ble_eq_true rfl)) d_Law_law_779 ⟨by show _ ≤ 601024; omega, by show _ ≤ 7293034; omega⟩) hZ hS (fun v9 w14 H locs q15 hP hS => ?_) (fun x9 w14 H locs q15 hP hS => q15.elim)
    obtain ⟨hv9, hw9⟩ := q15
    subst hv9
    rw [hw9] at hP
    show W _ _ _ _ _ _ _ _ _ _ _ _ _ _ _ (F0 m 782 ls [.int A7.thrown])
    refine lv_topi (fun v9 e9 => ?_)
    have e9 : v9 = nI ((x_checkpoint σ).2.1) := e9.trans (ht7)
    subst e9
    show W _ _ _ _ _ _ _ _ _ _ _ _ _ _ _ (F0 m 782 ls [.int (nI ((x_checkpoint σ).2.1))])
    refine lv_iload hx hb d_Law_law_782 (lv_at hl 1 rfl) ?_
    refine gk_icmp_eq (x := (x_checkpoint σ).2.1) (y := (x_checkpoint σ).2.1) (tgt := 789) hx hb d_Law_law_784 (by decide) (by omega) (by omega) (fun c784 => ?_) (fun c784 => ?_)
    · refine lv_iload hx hb d_Law_law_789 (lv_at hl 1 rfl) ?_
      refine gk_if_ne (x := (x_checkpoint σ).2.1) (tgt := 806) hx hb d_Law_law_791 (by decide) (by omega) (fun c791 => ?_) (fun c791 => ?_)
      · exact absurd hk9 c791
      · refine lv_aload_n hx hb d_Law_law_794 rfl (lv_at hl 5 rfl) ?_
        refine lv_iconst (v := 0) hx hb d_Law_law_795 (by decide) ?_
        refine va_lald hx hb hK (hv_one hP h13) 0 3 rfl rfl (vp_in_nI (n := 0) (by omega) (by omega)) d_Law_law_796 ?_
        rw [show Int32.toNatClampNeg 0 = 0 by decide]
        refine lv_topl (fun v9 e9 => ?_)
        have e9 : v9 = (x_checkpoint σ).2.2.toInt64 := e9.trans (m_uLs)
        subst e9
        show W _ _ _ _ _ _ _ _ _ _ _ _ _ _ _ (F0 m 797 ls [.long ((x_checkpoint σ).2.2.toInt64)])
        refine lv_iload hx hb d_Law_law_797 (lv_at hl 0 rfl) ?_
        refine lv_i2l (v := ((x_checkpoint σ).2.2).toInt64) hx hb d_Law_law_799 rfl ?_
        refine W.lcmp hx hb d_Law_law_800 ?_
        refine lv_if_eq (tgt := 806) hx hb d_Law_law_801 (by decide) (fun c801 => ?_) (fun c801 => ?_)
        · refine lv_goto (tgt := 1114) hx hb d_Law_law_806 (by decide) ?_
          refine W.widen (k := cells + 9) (n := slots + 69) (by omega) (by omega) ?_
          exact kk _ _ _ ⟨hgx1, hJ3⟩ _ _ _ hP hS (lv_sub hl [2, 3, 4, 5, 6] rfl)
        · exact absurd (g_lcmp_refl _) c801
    · exact absurd rfl c784
