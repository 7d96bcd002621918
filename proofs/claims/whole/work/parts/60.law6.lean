set_option maxHeartbeats 4000000 in
set_option maxRecDepth 100000 in
theorem lc_cut {p : Program} {l : Launch} {e : Env} {s : State} {m : MethodId} {below : List Frame} {meth : Method} {c : Code} {D : va_G} {ca : Nat → ClassId} {b n0 : Nat} {xs : Nat → Int32} {Q : State → Prop} (F : lF l s D ca p m c b n0 xs) {L K : Nat → Nat} {o9 i cells slots : Nat} (hi : i + 7 ≤ n0) (hcl : cells + 9 ≤ 601024) (hsl : slots + 69 ≤ 7293034) (kk : lKK p l e s m below meth c D ca L K o9 b i cells slots Q)
    {w : hv_W} {σ : gS} {f9 : Nat → Int64} (I : lI ca L K o9 σ f9 w) {H : Heap} {locs : List Loc} {ls : Array Slot} (hP : hv_P D classes s.heap.size w H) (hS : va_S (hv_A s.heap.size) s.heap H locs) (hl : lv_has ls 8 (lLoc b L K o9 i)) : W p l e room_1 s m #[Value.ref b] below meth c H locs cells slots Q (F0 m 809 ls []) := by
  obtain ⟨C, N, hx, hb, hml, hown, hts, hX, hbl, hn0⟩ := F
  have hK : va_K D classes (hv_tys ca) s := C.1
  have hZ : hv_Z s s := hv_Z.refl s
  have hbA : ¬ hv_A s.heap.size b := Nat.not_le.mpr hbl
  have hl : lv_has ls 8 [(0, .ref b), (1, .ref (L 0)), (2, .ref (K 0)), (3, .ref o9), (4, .int (nI i))] := hl
  obtain ⟨hgx, hJ⟩ := I
  have hW : gW σ := hgx.1
  obtain ⟨⟨P, hM, hR⟩, -, ho9, hap⟩ := id hJ
  have hlo : ¬ cM L o9 := hap.2.2.1
  have h0 : w (L 0) = some (.inr (0, [.ref (L 1), .ref (L 2), .ref (L 3), .ref (L 4), .ref (L 5), .ref (L 6), .ref (L 7), .int (σ.err), .int (nI σ.sc), .int (nI σ.ec), .int (σ.ins), .int (σ.off)])) := hM.1.2 0 (by decide)
  refine lv_aload_n hx hb d_Law_law_809 rfl (lv_at hl 1 rfl) ?_
  refine lv_aload_n hx hb d_Law_law_810 rfl (lv_at hl 0 rfl) ?_
  refine lv_iload hx hb d_Law_law_811 (lv_at hl 4 rfl) ?_
  refine lv_iconst (v := 1) hx hb d_Law_law_813 (by decide) ?_
  refine gk_iadd (x := i) (y := 1) hx hb d_Law_law_814 ?_
  refine va_sld hx hb hX hbl hbA hS (vp_in_nI (n := i + 1) (by omega) (by omega)) d_Law_law_815 ?_
  rw [nI_clamp (n := i + 1) (by omega)]
  refine hv_call (hv_runV (As := [.int (xs (i + 1))]) (rest := []) (c_GK_cut C N (xs (i + 1)) hM hR hW) (hv_cw C hZ kc_GK_cut kn_GK ⟨rfl, rfl, Nat.le_of_ble_eq_true rfl, Nat.le_of_ble_eq_true rfl⟩) hv_blind (hv_pre hZ hS hP) hx hml hb hown (hts _ k_Law_110) (hts _ ki_GK_cut) (hts _ ksel_GK_GK_cut) hy_GK_cut (hts _ kc_GK_cut) (va_recv hK (hv_one hP h0) (ci := 0) (q0 := 0) rfl rfl) rfl hl.1 rfl (lv_room (Nat.le_of_ble_eq_true rfl)) d_Law_law_816 ⟨by show _ ≤ 601024; omega, by show _ ≤ 7293034; omega⟩) hZ hS (fun v9 w1 H locs q2 hP hS => ?_) (fun x9 w1 H locs q2 hP hS => q2.elim)
  obtain ⟨hz9, hv9, hP9⟩ := q2
  subst hv9
  have hJ1 := hJ.cls hP9
  have hgx1 : gX (x_cut σ (xs (i + 1))).1 := gX_cut hgx (xs (i + 1))
  show W _ _ _ _ _ _ _ _ _ _ _ _ _ _ _ (F0 m 819 ls [.int ((x_cut σ (xs (i + 1))).2.2)])
  obtain ⟨-, ⟨t8, A8, B8, hM8, hR8, -⟩, -, -⟩ := id hJ1
  have h3 : w1 (K 0) = some (.inr (7, [.int A8.thrown, .ref (K 1), .ref (K 2), .ref (K 3), .ref (K 4), .ref (K 5), .ref (K 6), .ref (K 7), .ref (K 8), .ref (K 9), .ref (K 10), .ref (K 11), .ref (K 12), .int (nI A8.tapeSize), .ref (K 13), .int A8.error, .int A8.off, .int A8.inside, .int (nI A8.changes), .int (nI A8.earlier), .int (nI A8.logged), .int A8.over, .int (nI A8.loose), .int A8.written, .int (nI A8.due)])) := hM8.1.2 0 (by decide)
  refine lv_aload_n hx hb d_Law_law_819 rfl (lv_at hl 2 rfl) ?_
  refine lv_aload_n hx hb d_Law_law_820 rfl (lv_at hl 0 rfl) ?_
  refine lv_iload hx hb d_Law_law_821 (lv_at hl 4 rfl) ?_
  refine lv_iconst (v := 1) hx hb d_Law_law_823 (by decide) ?_
  refine gk_iadd (x := i) (y := 1) hx hb d_Law_law_824 ?_
  refine va_sld hx hb hX hbl hbA hS (vp_in_nI (n := i + 1) (by omega) (by omega)) d_Law_law_825 ?_
  rw [nI_clamp (n := i + 1) (by omega)]
  refine hv_call (hv_runV (As := [.int (xs (i + 1))]) (rest := [.int ((x_cut σ (xs (i + 1))).2.2)]) (c_Model_cut C (xs (i + 1)) hM8 hR8 hW) (hv_cw C hZ kc_Model_cut kn_Model ⟨rfl, rfl, Nat.le_of_ble_eq_true rfl, Nat.le_of_ble_eq_true rfl⟩) hv_blind (hv_pre hZ hS hP) hx hml hb hown (hts _ k_Law_114) (hts _ ki_Model_cut) (hts _ ksel_Model_Model_cut) hy_Model_cut (hts _ kc_Model_cut) (va_recv hK (hv_one hP h3) (ci := 7) (q0 := 0) rfl rfl) rfl hl.1 rfl (lv_room (Nat.le_of_ble_eq_true rfl)) d_Law_law_826 ⟨by show _ ≤ 601024; omega, by show _ ≤ 7293034; omega⟩) hZ hS (fun v9 w4 H locs q5 hP hS => ?_) (fun x9 w4 H locs q5 hP hS => q5.elim)
  obtain ⟨x8, hv8, hx8, hS8⟩ := q5
  subst hv8
  have hx8 := hx8 hz9
  subst hx8
  have hJ2 := hJ1.mod hgx1.1 hS8
  show W _ _ _ _ _ _ _ _ _ _ _ _ _ _ _ (F0 m 829 ls [.int ((x_cut σ (xs (i + 1))).2.2), .int ((x_cut σ (xs (i + 1))).2.2)])
  refine lv_icmp_eq (tgt := 1114) hx hb d_Law_law_829 (by decide) (fun c829 => ?_) (fun c829 => ?_)
  · refine W.widen (k := cells + 9) (n := slots + 69) (by omega) (by omega) ?_
    exact kk _ _ _ ⟨hgx1, hJ2⟩ _ _ _ hP hS (lv_sub hl [0, 1, 2, 3, 4] rfl)
  · exact absurd rfl c829

set_option maxHeartbeats 4000000 in
set_option maxRecDepth 100000 in
theorem lc_recover {p : Program} {l : Launch} {e : Env} {s : State} {m : MethodId} {below : List Frame} {meth : Method} {c : Code} {D : va_G} {ca : Nat → ClassId} {b n0 : Nat} {xs : Nat → Int32} {Q : State → Prop} (F : lF l s D ca p m c b n0 xs) {L K : Nat → Nat} {o9 i cells slots : Nat} (hi : i + 7 ≤ n0) (hcl : cells + 9 ≤ 601024) (hsl : slots + 69 ≤ 7293034) (kk : lKK p l e s m below meth c D ca L K o9 b i cells slots Q)
    {w : hv_W} {σ : gS} {f9 : Nat → Int64} (I : lI ca L K o9 σ f9 w) {H : Heap} {locs : List Loc} {ls : Array Slot} (hP : hv_P D classes s.heap.size w H) (hS : va_S (hv_A s.heap.size) s.heap H locs) (hl : lv_has ls 8 (lLoc b L K o9 i)) : W p l e room_1 s m #[Value.ref b] below meth c H locs cells slots Q (F0 m 834 ls []) := by
  obtain ⟨C, N, hx, hb, hml, hown, hts, hX, hbl, hn0⟩ := F
  have hK : va_K D classes (hv_tys ca) s := C.1
  have hZ : hv_Z s s := hv_Z.refl s
  have hbA : ¬ hv_A s.heap.size b := Nat.not_le.mpr hbl
  have hl : lv_has ls 8 [(0, .ref b), (1, .ref (L 0)), (2, .ref (K 0)), (3, .ref o9), (4, .int (nI i))] := hl
  obtain ⟨hgx, hJ⟩ := I
  have hW : gW σ := hgx.1
  obtain ⟨⟨P, hM, hR⟩, -, ho9, hap⟩ := id hJ
  have hlo : ¬ cM L o9 := hap.2.2.1
  have h0 : w (L 0) = some (.inr (0, [.ref (L 1), .ref (L 2), .ref (L 3), .ref (L 4), .ref (L 5), .ref (L 6), .ref (L 7), .int (σ.err), .int (nI σ.sc), .int (nI σ.ec), .int (σ.ins), .int (σ.off)])) := hM.1.2 0 (by decide)
  refine lv_aload_n hx hb d_Law_law_834 rfl (lv_at hl 1 rfl) ?_
  refine hv_call (hv_runV (As := []) (rest := []) (c_GK_recover C N  hM hR hW) (hv_cw C hZ kc_GK_recover kn_GK ⟨rfl, rfl, Nat.le_of_ble_eq_true rfl, Nat.le_of_ble_eq_true rfl⟩) hv_blind (hv_pre hZ hS hP) hx hml hb hown (hts _ k_Law_115) (hts _ ki_GK_recover) (hts _ ksel_GK_GK_recover) hy_GK_recover (hts _ kc_GK_recover) (va_recv hK (hv_one hP h0) (ci := 0) (q0 := 0) rfl rfl) rfl hl.1 rfl (lv_room (Nat.le_of_ble_eq_true rfl)) d_Law_law_835 ⟨by show _ ≤ 601024; omega, by show _ ≤ 7293034; omega⟩) hZ hS (fun v9 w1 H locs q2 hP hS => ?_) (fun x9 w1 H locs q2 hP hS => q2.elim)
  obtain ⟨hz9, hv9, hP9⟩ := q2
  subst hv9
  have hJ1 := hJ.cls hP9
  have hgx1 : gX (x_recover σ).1 := gX_recover hgx
  show W _ _ _ _ _ _ _ _ _ _ _ _ _ _ _ (F0 m 838 ls [.int ((x_recover σ).2.2)])
  obtain ⟨-, ⟨t8, A8, B8, hM8, hR8, -⟩, -, -⟩ := id hJ1
  have h3 : w1 (K 0) = some (.inr (7, [.int A8.thrown, .ref (K 1), .ref (K 2), .ref (K 3), .ref (K 4), .ref (K 5), .ref (K 6), .ref (K 7), .ref (K 8), .ref (K 9), .ref (K 10), .ref (K 11), .ref (K 12), .int (nI A8.tapeSize), .ref (K 13), .int A8.error, .int A8.off, .int A8.inside, .int (nI A8.changes), .int (nI A8.earlier), .int (nI A8.logged), .int A8.over, .int (nI A8.loose), .int A8.written, .int (nI A8.due)])) := hM8.1.2 0 (by decide)
  refine lv_aload_n hx hb d_Law_law_838 rfl (lv_at hl 2 rfl) ?_
  refine hv_call (hv_runV (As := []) (rest := [.int ((x_recover σ).2.2)]) (c_Model_recover C  hM8 hR8 hW) (hv_cw C hZ kc_Model_recover kn_Model ⟨rfl, rfl, Nat.le_of_ble_eq_true rfl, Nat.le_of_ble_eq_true rfl⟩) hv_blind (hv_pre hZ hS hP) hx hml hb hown (hts _ k_Law_118) (hts _ ki_Model_recover) (hts _ ksel_Model_Model_recover) hy_Model_recover (hts _ kc_Model_recover) (va_recv hK (hv_one hP h3) (ci := 7) (q0 := 0) rfl rfl) rfl hl.1 rfl (lv_room (Nat.le_of_ble_eq_true rfl)) d_Law_law_839 ⟨by show _ ≤ 601024; omega, by show _ ≤ 7293034; omega⟩) hZ hS (fun v9 w4 H locs q5 hP hS => ?_) (fun x9 w4 H locs q5 hP hS => q5.elim)
  obtain ⟨x8, hv8, hx8, hS8⟩ := q5
  subst hv8
  have hx8 := hx8 hz9
  subst hx8
  have hJ2 := hJ1.mod hgx1.1 hS8
  show W _ _ _ _ _ _ _ _ _ _ _ _ _ _ _ (F0 m 842 ls [.int ((x_recover σ).2.2), .int ((x_recover σ).2.2)])
  refine lv_icmp_eq (tgt := 1114) hx hb d_Law_law_842 (by decide) (fun c842 => ?_) (fun c842 => ?_)
  · refine W.widen (k := cells + 9) (n := slots + 69) (by omega) (by omega) ?_
    exact kk _ _ _ ⟨hgx1, hJ2⟩ _ _ _ hP hS (lv_sub hl [0, 1, 2, 3, 4] rfl)
  · exact absurd rfl c842

set_option maxHeartbeats 4000000 in
set_option maxRecDepth 100000 in
theorem lc_thing {p : Program} {l : Launch} {e : Env} {s : State} {m : MethodId} {below : List Frame} {meth : Method} {c : Code} {D : va_G} {ca : Nat → ClassId} {b n0 : Nat} {xs : Nat → Int32} {Q : State → Prop} (F : lF l s D ca p m c b n0 xs) {L K : Nat → Nat} {o9 i cells slots : Nat} (hi : i + 7 ≤ n0) (hcl : cells + 9 ≤ 601024) (hsl : slots + 69 ≤ 7293034) (kk : lKK p l e s m below meth c D ca L K o9 b i cells slots Q)
    {w : hv_W} {σ : gS} {f9 : Nat → Int64} (I : lI ca L K o9 σ f9 w) {H : Heap} {locs : List Loc} {ls : Array Slot} (hP : hv_P D classes s.heap.size w H) (hS : va_S (hv_A s.heap.size) s.heap H locs) (hl : lv_has ls 8 (lLoc b L K o9 i)) : W p l e room_1 s m #[Value.ref b] below meth c H locs cells slots Q (F0 m 847 ls []) := by
  obtain ⟨C, N, hx, hb, hml, hown, hts, hX, hbl, hn0⟩ := F
  have hK : va_K D classes (hv_tys ca) s := C.1
  have hZ : hv_Z s s := hv_Z.refl s
  have hbA : ¬ hv_A s.heap.size b := Nat.not_le.mpr hbl
  have hl : lv_has ls 8 [(0, .ref b), (1, .ref (L 0)), (2, .ref (K 0)), (3, .ref o9), (4, .int (nI i))] := hl
  obtain ⟨hgx, hJ⟩ := I
  have hW : gW σ := hgx.1
  obtain ⟨⟨P, hM, hR⟩, -, ho9, hap⟩ := id hJ
  have hlo : ¬ cM L o9 := hap.2.2.1
  have h0 : w (L 0) = some (.inr (0, [.ref (L 1), .ref (L 2), .ref (L 3), .ref (L 4), .ref (L 5), .ref (L 6), .ref (L 7), .int (σ.err), .int (nI σ.sc), .int (nI σ.ec), .int (σ.ins), .int (σ.off)])) := hM.1.2 0 (by decide)
  obtain ⟨-, ⟨t8, A8, B8, hM8, hR8, -⟩, -, -⟩ := id hJ
  have h1 : w (K 0) = some (.inr (7, [.int A8.thrown, .ref (K 1), .ref (K 2), .ref (K 3), .ref (K 4), .ref (K 5), .ref (K 6), .ref (K 7), .ref (K 8), .ref (K 9), .ref (K 10), .ref (K 11), .ref (K 12), .int (nI A8.tapeSize), .ref (K 13), .int A8.error, .int A8.off, .int A8.inside, .int (nI A8.changes), .int (nI A8.earlier), .int (nI A8.logged), .int A8.over, .int (nI A8.loose), .int A8.written, .int (nI A8.due)])) := hM8.1.2 0 (by decide)
  refine lv_aload_n hx hb d_Law_law_847 rfl (lv_at hl 1 rfl) ?_
  refine lv_aload_n hx hb d_Law_law_848 rfl (lv_at hl 0 rfl) ?_
  refine lv_iload hx hb d_Law_law_849 (lv_at hl 4 rfl) ?_
  refine lv_iconst (v := 1) hx hb d_Law_law_851 (by decide) ?_
  refine gk_iadd (x := i) (y := 1) hx hb d_Law_law_852 ?_
  refine va_sld hx hb hX hbl hbA hS (vp_in_nI (n := i + 1) (by omega) (by omega)) d_Law_law_853 ?_
  rw [nI_clamp (n := i + 1) (by omega)]
  refine lv_aload_n hx hb d_Law_law_854 rfl (lv_at hl 0 rfl) ?_
  refine lv_iload hx hb d_Law_law_855 (lv_at hl 4 rfl) ?_
  refine lv_iconst (v := 2) hx hb d_Law_law_857 (by decide) ?_
  refine gk_iadd (x := i) (y := 2) hx hb d_Law_law_858 ?_
  refine va_sld hx hb hX hbl hbA hS (vp_in_nI (n := i + 2) (by omega) (by omega)) d_Law_law_859 ?_
  rw [nI_clamp (n := i + 2) (by omega)]
  refine lv_aload_n hx hb d_Law_law_860 rfl (lv_at hl 0 rfl) ?_
  refine lv_iload hx hb d_Law_law_861 (lv_at hl 4 rfl) ?_
  refine lv_iconst (v := 3) hx hb d_Law_law_863 (by decide) ?_
  refine gk_iadd (x := i) (y := 3) hx hb d_Law_law_864 ?_
  refine va_sld hx hb hX hbl hbA hS (vp_in_nI (n := i + 3) (by omega) (by omega)) d_Law_law_865 ?_
  rw [nI_clamp (n := i + 3) (by omega)]
  refine hv_call (hv_runV (As := [.int (xs (i + 1)), .int (xs (i + 2)), .int (xs (i + 3))]) (rest := []) (c_GK_thing C N (xs (i + 1)) (xs (i + 2)) (xs (i + 3)) hM hR hW) (hv_cw C hZ kc_GK_thing kn_GK ⟨rfl, rfl, Nat.le_of_ble_eq_true rfl, Nat.le_of_ble_eq_true rfl⟩) hv_blind (hv_pre hZ hS hP) hx hml hb hown (hts _ k_Law_119) (hts _ ki_GK_thing) (hts _ ksel_GK_GK_thing) hy_GK_thing (hts _ kc_GK_thing) (va_recv hK (hv_one hP h0) (ci := 0) (q0 := 0) rfl rfl) rfl hl.1 rfl (lv_room (Nat.le_of_ble_eq_true rfl)) d_Law_law_866 ⟨by show _ ≤ 601024; omega, by show _ ≤ 7293034; omega⟩) hZ hS (fun v9 w2 H locs q3 hP hS => ?_) (fun x9 w2 H locs q3 hP hS => q3.elim)
  obtain ⟨hv9, hw9⟩ := q3
  subst hv9
  rw [hw9] at hP
  show W _ _ _ _ _ _ _ _ _ _ _ _ _ _ _ (F0 m 869 ls [.int ((x_thing σ (xs (i + 1)) (xs (i + 2)) (xs (i + 3))))])
  refine lv_aload_n hx hb d_Law_law_869 rfl (lv_at hl 2 rfl) ?_
  refine lv_aload_n hx hb d_Law_law_870 rfl (lv_at hl 0 rfl) ?_
  refine lv_iload hx hb d_Law_law_871 (lv_at hl 4 rfl) ?_
  refine lv_iconst (v := 1) hx hb d_Law_law_873 (by decide) ?_
  refine gk_iadd (x := i) (y := 1) hx hb d_Law_law_874 ?_
  refine va_sld hx hb hX hbl hbA hS (vp_in_nI (n := i + 1) (by omega) (by omega)) d_Law_law_875 ?_
  rw [nI_clamp (n := i + 1) (by omega)]
  refine lv_aload_n hx hb d_Law_law_876 rfl (lv_at hl 0 rfl) ?_
  refine lv_iload hx hb d_Law_law_877 (lv_at hl 4 rfl) ?_
  refine lv_iconst (v := 2) hx hb d_Law_law_879 (by decide) ?_
  refine gk_iadd (x := i) (y := 2) hx hb d_Law_law_880 ?_
  refine va_sld hx hb hX hbl hbA hS (vp_in_nI (n := i + 2) (by omega) (by omega)) d_Law_law_881 ?_
  rw [nI_clamp (n := i + 2) (by omega)]
  refine lv_aload_n hx hb d_Law_law_882 rfl (lv_at hl 0 rfl) ?_
  refine lv_iload hx hb d_Law_law_883 (lv_at hl 4 rfl) ?_
  refine lv_iconst (v := 3) hx hb d_Law_law_885 (by decide) ?_
  refine gk_iadd (x := i) (y := 3) hx hb d_Law_law_886 ?_
  refine va_sld hx hb hX hbl hbA hS (vp_in_nI (n := i + 3) (by omega) (by omega)) d_Law_law_887 ?_
  rw [nI_clamp (n := i + 3) (by omega)]
  refine hv_call (hv_runV (As := [.int (xs (i + 1)), .int (xs (i + 2)), .int (xs (i + 3))]) (rest := [.int ((x_thing σ (xs (i + 1)) (xs (i + 2)) (xs (i + 3))))]) (c_Model_thing C (xs (i + 1)) (xs (i + 2)) (xs (i + 3)) hM8 hR8 hW) (hv_cw C hZ kc_Model_thing kn_Model ⟨rfl, rfl, Nat.le_of_ble_eq_true rfl, Nat.le_of_ble_eq_true rfl⟩) hv_blind (hv_pre hZ hS hP) hx hml hb hown (hts _ k_Law_122) (hts _ ki_Model_thing) (hts _ ksel_Model_Model_thing) hy_Model_thing (hts _ kc_Model_thing) (va_recv hK (hv_one hP h1) (ci := 7) (q0 := 0) rfl rfl) rfl hl.1 rfl (lv_room (Nat.le_of_ble_eq_true rfl)) d_Law_law_888 ⟨by show _ ≤ 601024; omega, by show _ ≤ 7293034; omega⟩) hZ hS (fun v9 w4 H locs q5 hP hS => ?_) (fun x9 w4 H locs q5 hP hS => q5.elim)
  obtain ⟨hv8, hS8⟩ := q5
  subst hv8
  have hJ2 := hJ.mod hW hS8
  show W _ _ _ _ _ _ _ _ _ _ _ _ _ _ _ (F0 m 891 ls [.int ((x_thing σ (xs (i + 1)) (xs (i + 2)) (xs (i + 3)))), .int ((x_thing σ (xs (i + 1)) (xs (i + 2)) (xs (i + 3))))])
  refine lv_icmp_eq (tgt := 1114) hx hb d_Law_law_891 (by decide) (fun c891 => ?_) (fun c891 => ?_)
  · refine W.widen (k := cells + 9) (n := slots + 69) (by omega) (by omega) ?_
    exact kk _ _ _ ⟨hgx, hJ2⟩ _ _ _ hP hS (lv_sub hl [0, 1, 2, 3, 4] rfl)
  · exact absurd rfl c891

set_option maxHeartbeats 4000000 in
set_option maxRecDepth 100000 in
theorem lc_chain {p : Program} {l : Launch} {e : Env} {s : State} {m : MethodId} {below : List Frame} {meth : Method} {c : Code} {D : va_G} {ca : Nat → ClassId} {b n0 : Nat} {xs : Nat → Int32} {Q : State → Prop} (F : lF l s D ca p m c b n0 xs) {L K : Nat → Nat} {o9 i cells slots : Nat} (hi : i + 7 ≤ n0) (hcl : cells + 9 ≤ 601024) (hsl : slots + 69 ≤ 7293034) (kk : lKK p l e s m below meth c D ca L K o9 b i cells slots Q)
    {w : hv_W} {σ : gS} {f9 : Nat → Int64} (I : lI ca L K o9 σ f9 w) {H : Heap} {locs : List Loc} {ls : Array Slot} (hP : hv_P D classes s.heap.size w H) (hS : va_S (hv_A s.heap.size) s.heap H locs) (hl : lv_has ls 8 (lLoc b L K o9 i)) : W p l e room_1 s m #[Value.ref b] below meth c H locs cells slots Q (F0 m 896 ls []) := by
  obtain ⟨C, N, hx, hb, hml, hown, hts, hX, hbl, hn0⟩ := F
  have hK : va_K D classes (hv_tys ca) s := C.1
  have hZ : hv_Z s s := hv_Z.refl s
  have hbA : ¬ hv_A s.heap.size b := Nat.not_le.mpr hbl
  have hl : lv_has ls 8 [(0, .ref b), (1, .ref (L 0)), (2, .ref (K 0)), (3, .ref o9), (4, .int (nI i))] := hl
  obtain ⟨hgx, hJ⟩ := I
  have hW : gW σ := hgx.1
  obtain ⟨⟨P, hM, hR⟩, -, ho9, hap⟩ := id hJ
  have hlo : ¬ cM L o9 := hap.2.2.1
  have h0 : w (L 0) = some (.inr (0, [.ref (L 1), .ref (L 2), .ref (L 3), .ref (L 4), .ref (L 5), .ref (L 6), .ref (L 7), .int (σ.err), .int (nI σ.sc), .int (nI σ.ec), .int (σ.ins), .int (σ.off)])) := hM.1.2 0 (by decide)
  obtain ⟨-, ⟨t8, A8, B8, hM8, hR8, -⟩, -, -⟩ := id hJ
  have h1 : w (K 0) = some (.inr (7, [.int A8.thrown, .ref (K 1), .ref (K 2), .ref (K 3), .ref (K 4), .ref (K 5), .ref (K 6), .ref (K 7), .ref (K 8), .ref (K 9), .ref (K 10), .ref (K 11), .ref (K 12), .int (nI A8.tapeSize), .ref (K 13), .int A8.error, .int A8.off, .int A8.inside, .int (nI A8.changes), .int (nI A8.earlier), .int (nI A8.logged), .int A8.over, .int (nI A8.loose), .int A8.written, .int (nI A8.due)])) := hM8.1.2 0 (by decide)
  refine lv_aload_n hx hb d_Law_law_896 rfl (lv_at hl 1 rfl) ?_
  refine lv_aload_n hx hb d_Law_law_897 rfl (lv_at hl 0 rfl) ?_
  refine lv_iload hx hb d_Law_law_898 (lv_at hl 4 rfl) ?_
  refine lv_iconst (v := 1) hx hb d_Law_law_900 (by decide) ?_
  refine gk_iadd (x := i) (y := 1) hx hb d_Law_law_901 ?_
  refine va_sld hx hb hX hbl hbA hS (vp_in_nI (n := i + 1) (by omega) (by omega)) d_Law_law_902 ?_
  rw [nI_clamp (n := i + 1) (by omega)]
  refine lv_aload_n hx hb d_Law_law_903 rfl (lv_at hl 0 rfl) ?_
  refine lv_iload hx hb d_Law_law_904 (lv_at hl 4 rfl) ?_
  refine lv_iconst (v := 2) hx hb d_Law_law_906 (by decide) ?_
  refine gk_iadd (x := i) (y := 2) hx hb d_Law_law_907 ?_
  refine va_sld hx hb hX hbl hbA hS (vp_in_nI (n := i + 2) (by omega) (by omega)) d_Law_law_908 ?_
  rw [nI_clamp (n := i + 2) (by omega)]
  refine lv_if_eq (tgt := 916) hx hb d_Law_law_909 (by decide) (fun c909 => ?_) (fun c909 => ?_)
  · refine lv_iconst (v := 0) hx hb d_Law_law_916 (by decide) ?_
    refine lv_aload_n hx hb d_Law_law_917 rfl (lv_at hl 0 rfl) ?_
    refine lv_iload hx hb d_Law_law_918 (lv_at hl 4 rfl) ?_
    refine lv_iconst (v := 3) hx hb d_Law_law_920 (by decide) ?_
    refine gk_iadd (x := i) (y := 3) hx hb d_Law_law_921 ?_
    refine va_sld hx hb hX hbl hbA hS (vp_in_nI (n := i + 3) (by omega) (by omega)) d_Law_law_922 ?_
    rw [nI_clamp (n := i + 3) (by omega)]
    refine hv_call (hv_runV (As := [.int (xs (i + 1)), .int 0, .int (xs (i + 3))]) (rest := []) (c_GK_chain C N (xs (i + 1)) 0 (xs (i + 3)) hM hR hW) (hv_cw C hZ kc_GK_chain kn_GK ⟨rfl, rfl, Nat.le_of_ble_eq_true rfl, Nat.le_of_ble_eq_true rfl⟩) hv_blind (hv_pre hZ hS hP) hx hml hb hown (hts _ k_Law_123) (hts _ ki_GK_chain) (hts _ ksel_GK_GK_chain) hy_GK_chain (hts _ kc_GK_chain) (va_recv hK (hv_one hP h0) (ci := 0) (q0 := 0) rfl rfl) rfl hl.1 rfl (lv_room (Nat.le_of_ble_eq_true rfl)) d_Law_law_923 ⟨by show _ ≤ 601024; omega, by show _ ≤ 7293034; omega⟩) hZ hS (fun v9 w2 H locs q3 hP hS => ?_) (fun x9 w2 H locs q3 hP hS => q3.elim)
    obtain ⟨⟨r7, hv9, hk7⟩, hw9⟩ := q3
    subst hv9
    rw [hw9] at hP
    show W _ _ _ _ _ _ _ _ _ _ _ _ _ _ _ (F0 m 926 ls [.int r7])
    refine lv_aload_n hx hb d_Law_law_926 rfl (lv_at hl 2 rfl) ?_
    refine lv_aload_n hx hb d_Law_law_927 rfl (lv_at hl 0 rfl) ?_
    refine lv_iload hx hb d_Law_law_928 (lv_at hl 4 rfl) ?_
    refine lv_iconst (v := 1) hx hb d_Law_law_930 (by decide) ?_
    refine gk_iadd (x := i) (y := 1) hx hb d_Law_law_931 ?_
    refine va_sld hx hb hX hbl hbA hS (vp_in_nI (n := i + 1) (by omega) (by omega)) d_Law_law_932 ?_
    rw [nI_clamp (n := i + 1) (by omega)]
    refine lv_aload_n hx hb d_Law_law_933 rfl (lv_at hl 0 rfl) ?_
    refine lv_iload hx hb d_Law_law_934 (lv_at hl 4 rfl) ?_
    refine lv_iconst (v := 2) hx hb d_Law_law_936 (by decide) ?_
    refine gk_iadd (x := i) (y := 2) hx hb d_Law_law_937 ?_
    refine va_sld hx hb hX hbl hbA hS (vp_in_nI (n := i + 2) (by omega) (by omega)) d_Law_law_938 ?_
    rw [nI_clamp (n := i + 2) (by omega)]
    refine lv_if_eq (tgt := 946) hx hb d_Law_law_939 (by decide) (fun c939 => ?_) (fun c939 => ?_)
    · refine lv_iconst (v := 0) hx hb d_Law_law_946 (by decide) ?_
      refine lv_aload_n hx hb d_Law_law_947 rfl (lv_at hl 0 rfl) ?_
      refine lv_iload hx hb d_Law_law_948 (lv_at hl 4 rfl) ?_
      refine lv_iconst (v := 3) hx hb d_Law_law_950 (by decide) ?_
      refine gk_iadd (x := i) (y := 3) hx hb d_Law_law_951 ?_
      refine va_sld hx hb hX hbl hbA hS (vp_in_nI (n := i + 3) (by omega) (by omega)) d_Law_law_952 ?_
      rw [nI_clamp (n := i + 3) (by omega)]
      refine hv_call (hv_runV (As := [.int (xs (i + 1)), .int 0, .int (xs (i + 3))]) (rest := [.int r7]) (c_Model_chain C (xs (i + 1)) 0 (xs (i + 3)) hM8 hR8 hW) (hv_cw C hZ kc_Model_chain kn_Model ⟨rfl, rfl, Nat.le_of_ble_eq_true rfl, Nat.le_of_ble_eq_true rfl⟩) hv_blind (hv_pre hZ hS hP) hx hml hb hown (hts _ k_Law_127) (hts _ ki_Model_chain) (hts _ ksel_Model_Model_chain) hy_Model_chain (hts _ kc_Model_chain) (va_recv hK (hv_one hP h1) (ci := 7) (q0 := 0) rfl rfl) rfl hl.1 rfl (lv_room (Nat.le_of_ble_eq_true rfl)) d_Law_law_953 ⟨by show _ ≤ 601024; omega, by show _ ≤ 7293034; omega⟩) hZ hS (fun v9 w4 H locs q5 hP hS => ?_) (fun x9 w4 H locs q5 hP hS => q5.elim)
      obtain ⟨⟨r8, hv8, hk8⟩, hS8⟩ := q5
      subst hv8
      have hr8 := x_kth_uniq hk8 hk7
      subst hr8
      have hJ2 := hJ.mod hW hS8
      show W _ _ _ _ _ _ _ _ _ _ _ _ _ _ _ (F0 m 956 ls [.int r8, .int r8])
      refine lv_icmp_eq (tgt := 1114) hx hb d_Law_law_956 (by decide) (fun c956 => ?_) (fun c956 => ?_)
      · refine W.widen (k := cells + 9) (n := slots + 69) (by omega) (by omega) ?_
        exact kk _ _ _ ⟨hgx, hJ2⟩ _ _ _ hP hS (lv_sub hl [0, 1, 2, 3, 4] rfl)
      · exact absurd rfl c956
    · exact absurd c909 c939
  · refine lv_iconst (v := 1) hx hb d_Law_law_912 (by decide) ?_
    refine lv_goto (tgt := 917) hx hb d_Law_law_913 (by decide) ?_
    refine lv_aload_n hx hb d_Law_law_917 rfl (lv_at hl 0 rfl) ?_
    refine lv_iload hx hb d_Law_law_918 (lv_at hl 4 rfl) ?_
    refine lv_iconst (v := 3) hx hb d_Law_law_920 (by decide) ?_
    refine gk_iadd (x := i) (y := 3) hx hb d_Law_law_921 ?_
    refine va_sld hx hb hX hbl hbA hS (vp_in_nI (n := i + 3) (by omega) (by omega)) d_Law_law_922 ?_
    rw [nI_clamp (n := i + 3) (by omega)]
    refine hv_call (hv_runV (As := [.int (xs (i + 1)), .int 1, .int (xs (i + 3))]) (rest := []) (c_GK_chain C N (xs (i + 1)) 1 (xs (i + 3)) hM hR hW) (hv_cw C hZ kc_GK_chain kn_GK ⟨rfl, rfl, Nat.le_of_ble_eq_true rfl, Nat.le_of_ble_eq_true rfl⟩) hv_blind (hv_pre hZ hS hP) hx hml hb hown (hts _ k_Law_123) (hts _ ki_GK_chain) (hts _ ksel_GK_GK_chain) hy_GK_chain (hts _ kc_GK_chain) (va_recv hK (hv_one hP h0) (ci := 0) (q0 := 0) rfl rfl) rfl hl.1 rfl (lv_room (Nat.le_of_ble_eq_true rfl)) d_Law_law_923 ⟨by show _ ≤ 601024; omega, by show _ ≤ 7293034; omega⟩) hZ hS (fun v9 w6 H locs q7 hP hS => ?_) (fun x9 w6 H locs q7 hP hS => q7.elim)
    obtain ⟨⟨r7, hv9, hk7⟩, hw9⟩ := q7
    subst hv9
    rw [hw9] at hP
    show W _ _ _ _ _ _ _ _ _ _ _ _ _ _ _ (F0 m 926 ls [.int r7])
    refine lv_aload_n hx hb d_Law_law_926 rfl (lv_at hl 2 rfl) ?_
    refine lv_aload_n hx hb d_Law_law_927 rfl (lv_at hl 0 rfl) ?_
    refine lv_iload hx hb d_Law_law_928 (lv_at hl 4 rfl) ?_
    refine lv_iconst (v := 1) hx hb d_Law_law_930 (by decide) ?_
    refine gk_iadd (x := i) (y := 1) hx hb d_Law_law_931 ?_
    refine va_sld hx hb hX hbl hbA hS (vp_in_nI (n := i + 1) (by omega) (by omega)) d_Law_law_932 ?_
    rw [nI_clamp (n := i + 1) (by omega)]
    refine lv_aload_n hx hb d_Law_law_933 rfl (lv_at hl 0 rfl) ?_
    refine lv_iload hx hb d_Law_law_934 (lv_at hl 4 rfl) ?_
    refine lv_iconst (v := 2) hx hb d_Law_law_936 (by decide) ?_
    refine gk_iadd (x := i) (y := 2) hx hb d_Law_law_937 ?_
    refine va_sld hx hb hX hbl hbA hS (vp_in_nI (n := i + 2) (by omega) (by omega)) d_Law_law_938 ?_
    rw [nI_clamp (n := i + 2) (by omega)]
    refine lv_if_eq (tgt := 946) hx hb d_Law_law_939 (by decide) (fun c939 => ?_) (fun c939 => ?_)
    · exact absurd c939 c909
    · refine lv_iconst (v := 1) hx hb d_Law_law_942 (by decide) ?_
      refine lv_goto (tgt := 947) hx hb d_Law_law_943 (by decide) ?_
      refine lv_aload_n hx hb d_Law_law_947 rfl (lv_at hl 0 rfl) ?_
      refine lv_iload hx hb d_Law_law_948 (lv_at hl 4 rfl) ?_
      refine lv_iconst (v := 3) hx hb d_Law_law_950 (by decide) ?_
      refine gk_iadd (x := i) (y := 3) hx hb d_Law_law_951 ?_
      refine va_sld hx hb hX hbl hbA hS (vp_in_nI (n := i + 3) (by omega) (by omega)) d_Law_law_952 ?_
      rw [nI_clamp (n := i + 3) (by omega)]
      refine hv_call (hv_runV (As := [.int (xs (i + 1)), .int 1, .int (xs (i + 3))]) (rest := [.int r7]) (c_Model_chain C (xs (i + 1)) 1 (xs (i + 3)) hM8 hR8 hW) (hv_cw C hZ kc_Model_chain kn_Model ⟨rfl, rfl, Nat.le_of_ble_eq_true rfl, Nat.le_of_ble_eq_true rfl⟩) hv_blind (hv_pre hZ hS hP) hx hml hb hown (hts _ k_Law_127) (hts _ ki_Model_chain) (hts _ ksel_Model_Model_chain) hy_Model_chain (hts _ kc_Model_chain) (va_recv hK (hv_one hP h1) (ci := 7) (q0 := 0) rfl rfl) rfl hl.1 rfl (lv_room (Nat.le_of_ble_eq_true rfl)) d_Law_law_953 ⟨by show _ ≤ 601024; omega, by show _ ≤ 7293034; omega⟩) hZ hS (fun v9 w8 H locs q9 hP hS => ?_) (fun x9 w8 H locs q9 hP hS => q9.elim)
      obtain ⟨⟨r8, hv8, hk8⟩, hS8⟩ := q9
      subst hv8
      have hr8 := x_kth_uniq hk8 hk7
      subst hr8
      have hJ2 := hJ.mod hW hS8
      show W _ _ _ _ _ _ _ _ _ _ _ _ _ _ _ (F0 m 956 ls [.int r8, .int r8])
      refine lv_icmp_eq (tgt := 1114) hx hb d_Law_law_956 (by decide) (fun c956 => ?_) (fun c956 => ?_)
      · refine W.widen (k := cells + 9) (n := slots + 69) (by omega) (by omega) ?_
        exact kk _ _ _ ⟨hgx, hJ2⟩ _ _ _ hP hS (lv_sub hl [0, 1, 2, 3, 4] rfl)
      · exact absurd rfl c956

set_option maxHeartbeats 4000000 in
set_option maxRecDepth 100000 in
theorem lc_has {p : Program} {l : Launch} {e : Env} {s : State} {m : MethodId} {below : List Frame} {meth : Method} {c : Code} {D : va_G} {ca : Nat → ClassId} {b n0 : Nat} {xs : Nat → Int32} {Q : State → Prop} (F : lF l s D ca p m c b n0 xs) {L K : Nat → Nat} {o9 i cells slots : Nat} (hi : i + 7 ≤ n0) (hcl : cells + 9 ≤ 601024) (hsl : slots + 69 ≤ 7293034) (kk : lKK p l e s m below meth c D ca L K o9 b i cells slots Q)
    {w : hv_W} {σ : gS} {f9 : Nat → Int64} (I : lI ca L K o9 σ f9 w) {H : Heap} {locs : List Loc} {ls : Array Slot} (hP : hv_P D classes s.heap.size w H) (hS : va_S (hv_A s.heap.size) s.heap H locs) (hl : lv_has ls 8 (lLoc b L K o9 i)) : W p l e room_1 s m #[Value.ref b] below meth c H locs cells slots Q (F0 m 961 ls []) := by
  obtain ⟨C, N, hx, hb, hml, hown, hts, hX, hbl, hn0⟩ := F
  have hK : va_K D classes (hv_tys ca) s := C.1
  have hZ : hv_Z s s := hv_Z.refl s
  have hbA : ¬ hv_A s.heap.size b := Nat.not_le.mpr hbl
  have hl : lv_has ls 8 [(0, .ref b), (1, .ref (L 0)), (2, .ref (K 0)), (3, .ref o9), (4, .int (nI i))] := hl
  obtain ⟨hgx, hJ⟩ := I
  have hW : gW σ := hgx.1
  obtain ⟨⟨P, hM, hR⟩, -, ho9, hap⟩ := id hJ
  have hlo : ¬ cM L o9 := hap.2.2.1
  have h0 : w (L 0) = some (.inr (0, [.ref (L 1), .ref (L 2), .ref (L 3), .ref (L 4), .ref (L 5), .ref (L 6), .ref (L 7), .int (σ.err), .int (nI σ.sc), .int (nI σ.ec), .int (σ.ins), .int (σ.off)])) := hM.1.2 0 (by decide)
  obtain ⟨-, ⟨t8, A8, B8, hM8, hR8, -⟩, -, -⟩ := id hJ
  have h1 : w (K 0) = some (.inr (7, [.int A8.thrown, .ref (K 1), .ref (K 2), .ref (K 3), .ref (K 4), .ref (K 5), .ref (K 6), .ref (K 7), .ref (K 8), .ref (K 9), .ref (K 10), .ref (K 11), .ref (K 12), .int (nI A8.tapeSize), .ref (K 13), .int A8.error, .int A8.off, .int A8.inside, .int (nI A8.changes), .int (nI A8.earlier), .int (nI A8.logged), .int A8.over, .int (nI A8.loose), .int A8.written, .int (nI A8.due)])) := hM8.1.2 0 (by decide)
  refine lv_aload_n hx hb d_Law_law_961 rfl (lv_at hl 1 rfl) ?_
  refine lv_aload_n hx hb d_Law_law_962 rfl (lv_at hl 0 rfl) ?_
  refine lv_iload hx hb d_Law_law_963 (lv_at hl 4 rfl) ?_
  refine lv_iconst (v := 1) hx hb d_Law_law_965 (by decide) ?_
  refine gk_iadd (x := i) (y := 1) hx hb d_Law_law_966 ?_
  refine va_sld hx hb hX hbl hbA hS (vp_in_nI (n := i + 1) (by omega) (by omega)) d_Law_law_967 ?_
  rw [nI_clamp (n := i + 1) (by omega)]
  refine lv_aload_n hx hb d_Law_law_968 rfl (lv_at hl 0 rfl) ?_
  refine lv_iload hx hb d_Law_law_969 (lv_at hl 4 rfl) ?_
  refine lv_iconst (v := 2) hx hb d_Law_law_971 (by decide) ?_
  refine gk_iadd (x := i) (y := 2) hx hb d_Law_law_972 ?_
  refine va_sld hx hb hX hbl hbA hS (vp_in_nI (n := i + 2) (by omega) (by omega)) d_Law_law_973 ?_
  rw [nI_clamp (n := i + 2) (by omega)]
  refine hv_call (hv_runV (As := [.int (xs (i + 1)), .int (xs (i + 2))]) (rest := []) (c_GK_has C N (xs (i + 1)) (xs (i + 2)) hM hR hW) (hv_cw C hZ kc_GK_has kn_GK ⟨rfl, rfl, Nat.le_of_ble_eq_true rfl, Nat.le_of_ble_eq_true rfl⟩) hv_blind (hv_pre hZ hS hP) hx hml hb hown (hts _ k_Law_128) (hts _ ki_GK_has) (hts _ ksel_GK_GK_has) hy_GK_has (hts _ kc_GK_has) (va_recv hK (hv_one hP h0) (ci := 0) (q0 := 0) rfl rfl) rfl hl.1 rfl (lv_room (Nat.le_of_ble_eq_true rfl)) d_Law_law_974 ⟨by show _ ≤ 601024; omega, by show _ ≤ 7293034; omega⟩) hZ hS (fun v9 w2 H locs q3 hP hS => ?_) (fun x9 w2 H locs q3 hP hS => q3.elim)
  obtain ⟨hv9, hw9⟩ := q3
  subst hv9
  rw [hw9] at hP
  show W _ _ _ _ _ _ _ _ _ _ _ _ _ _ _ (F0 m 977 ls [.int ((x_has σ (xs (i + 1)) (xs (i + 2))))])
  refine lv_aload_n hx hb d_Law_law_977 rfl (lv_at hl 2 rfl) ?_
  refine lv_aload_n hx hb d_Law_law_978 rfl (lv_at hl 0 rfl) ?_
  refine lv_iload hx hb d_Law_law_979 (lv_at hl 4 rfl) ?_
  refine lv_iconst (v := 1) hx hb d_Law_law_981 (by decide) ?_
  refine gk_iadd (x := i) (y := 1) hx hb d_Law_law_982 ?_
  refine va_sld hx hb hX hbl hbA hS (vp_in_nI (n := i + 1) (by omega) (by omega)) d_Law_law_983 ?_
  rw [nI_clamp (n := i + 1) (by omega)]
  refine lv_aload_n hx hb d_Law_law_984 rfl (lv_at hl 0 rfl) ?_
  refine lv_iload hx hb d_Law_law_985 (lv_at hl 4 rfl) ?_
  refine lv_iconst (v := 2) hx hb d_Law_law_987 (by decide) ?_
  refine gk_iadd (x := i) (y := 2) hx hb d_Law_law_988 ?_
  refine va_sld hx hb hX hbl hbA hS (vp_in_nI (n := i + 2) (by omega) (by omega)) d_Law_law_989 ?_
  rw [nI_clamp (n := i + 2) (by omega)]
  refine hv_call (hv_runV (As := [.int (xs (i + 1)), .int (xs (i + 2))]) (rest := [.int ((x_has σ (xs (i + 1)) (xs (i + 2))))]) (c_Model_has C (xs (i + 1)) (xs (i + 2)) hM8 hR8 hW) (hv_cw C hZ kc_Model_has kn_Model ⟨rfl, rfl, Nat.le_of_ble_eq_true rfl, Nat.le_of_ble_eq_true rfl⟩) hv_blind (hv_pre hZ hS hP) hx hml hb hown (hts _ k_Law_132) (hts _ ki_Model_has) (hts _ ksel_Model_Model_has) hy_Model_has (hts _ kc_Model_has) (va_recv hK (hv_one hP h1) (ci := 7) (q0 := 0) rfl rfl) rfl hl.1 rfl (lv_room (Nat.le_of_ble_eq_true rfl)) d_Law_law_990 ⟨by show _ ≤ 601024; omega, by show _ ≤ 7293034; omega⟩) hZ hS (fun v9 w4 H locs q5 hP hS => ?_) (fun x9 w4 H locs q5 hP hS => q5.elim)
  obtain ⟨hv8, hS8⟩ := q5
  subst hv8
  have hJ2 := hJ.mod hW hS8
  show W _ _ _ _ _ _ _ _ _ _ _ _ _ _ _ (F0 m 993 ls [.int ((x_has σ (xs (i + 1)) (xs (i + 2)))), .int ((x_has σ (xs (i + 1)) (xs (i + 2))))])
  refine lv_icmp_eq (tgt := 1114) hx hb d_Law_law_993 (by decide) (fun c993 => ?_) (fun c993 => ?_)
  · refine W.widen (k := cells + 9) (n := slots + 69) (by omega) (by omega) ?_
    exact kk _ _ _ ⟨hgx, hJ2⟩ _ _ _ hP hS (lv_sub hl [0, 1, 2, 3, 4] rfl)
  · exact absurd rfl c993

set_option maxHeartbeats 4000000 in
set_option maxRecDepth 100000 in
theorem lc_value {p : Program} {l : Launch} {e : Env} {s : State} {m : MethodId} {below : List Frame} {meth : Method} {c : Code} {D : va_G} {ca : Nat → ClassId} {b n0 : Nat} {xs : Nat → Int32} {Q : State → Prop} (F : lF l s D ca p m c b n0 xs) {L K : Nat → Nat} {o9 i cells slots : Nat} (hi : i + 7 ≤ n0) (hcl : cells + 9 ≤ 601024) (hsl : slots + 69 ≤ 7293034) (kk : lKK p l e s m below meth c D ca L K o9 b i cells slots Q)
    {w : hv_W} {σ : gS} {f9 : Nat → Int64} (I : lI ca L K o9 σ f9 w) {H : Heap} {locs : List Loc} {ls : Array Slot} (hP : hv_P D classes s.heap.size w H) (hS : va_S (hv_A s.heap.size) s.heap H locs) (hl : lv_has ls 8 (lLoc b L K o9 i)) : W p l e room_1 s m #[Value.ref b] below meth c H locs cells slots Q (F0 m 998 ls []) := by
  obtain ⟨C, N, hx, hb, hml, hown, hts, hX, hbl, hn0⟩ := F
  have hK : va_K D classes (hv_tys ca) s := C.1
  have hZ : hv_Z s s := hv_Z.refl s
  have hbA : ¬ hv_A s.heap.size b := Nat.not_le.mpr hbl
  have hl : lv_has ls 8 [(0, .ref b), (1, .ref (L 0)), (2, .ref (K 0)), (3, .ref o9), (4, .int (nI i))] := hl
  obtain ⟨hgx, hJ⟩ := I
  have hW : gW σ := hgx.1
  obtain ⟨⟨P, hM, hR⟩, -, ho9, hap⟩ := id hJ
  have hlo : ¬ cM L o9 := hap.2.2.1
  have h0 : w (L 0) = some (.inr (0, [.ref (L 1), .ref (L 2), .ref (L 3), .ref (L 4), .ref (L 5), .ref (L 6), .ref (L 7), .int (σ.err), .int (nI σ.sc), .int (nI σ.ec), .int (σ.ins), .int (σ.off)])) := hM.1.2 0 (by decide)
  refine lv_aload_n hx hb d_Law_law_998 rfl (lv_at hl 1 rfl) ?_
  refine lv_aload_n hx hb d_Law_law_999 rfl (lv_at hl 0 rfl) ?_
  refine lv_iload hx hb d_Law_law_1000 (lv_at hl 4 rfl) ?_
  refine lv_iconst (v := 1) hx hb d_Law_law_1002 (by decide) ?_
  refine gk_iadd (x := i) (y := 1) hx hb d_Law_law_1003 ?_
  refine va_sld hx hb hX hbl hbA hS (vp_in_nI (n := i + 1) (by omega) (by omega)) d_Law_law_1004 ?_
  rw [nI_clamp (n := i + 1) (by omega)]
  refine lv_aload_n hx hb d_Law_law_1005 rfl (lv_at hl 0 rfl) ?_
  refine lv_iload hx hb d_Law_law_1006 (lv_at hl 4 rfl) ?_
  refine lv_iconst (v := 2) hx hb d_Law_law_1008 (by decide) ?_
  refine gk_iadd (x := i) (y := 2) hx hb d_Law_law_1009 ?_
  refine va_sld hx hb hX hbl hbA hS (vp_in_nI (n := i + 2) (by omega) (by omega)) d_Law_law_1010 ?_
  rw [nI_clamp (n := i + 2) (by omega)]
  refine lv_aload_n hx hb d_Law_law_1011 rfl (lv_at hl 0 rfl) ?_
  refine lv_iload hx hb d_Law_law_1012 (lv_at hl 4 rfl) ?_
  refine lv_iconst (v := 3) hx hb d_Law_law_1014 (by decide) ?_
  refine gk_iadd (x := i) (y := 3) hx hb d_Law_law_1015 ?_
  refine va_sld hx hb hX hbl hbA hS (vp_in_nI (n := i + 3) (by omega) (by omega)) d_Law_law_1016 ?_
  rw [nI_clamp (n := i + 3) (by omega)]
  refine lv_aload_n hx hb d_Law_law_1017 rfl (lv_at hl 0 rfl) ?_
  refine lv_iload hx hb d_Law_law_1018 (lv_at hl 4 rfl) ?_
  refine lv_iconst (v := 4) hx hb d_Law_law_1020 (by decide) ?_
  refine gk_iadd (x := i) (y := 4) hx hb d_Law_law_1021 ?_
  refine va_sld hx hb hX hbl hbA hS (vp_in_nI (n := i + 4) (by omega) (by omega)) d_Law_law_1022 ?_
  rw [nI_clamp (n := i + 4) (by omega)]
  refine lv_aload_n hx hb d_Law_law_1023 rfl (lv_at hl 3 rfl) ?_
  refine hv_call (hv_runS (As := [.ref (L 0), .int (xs (i + 1)), .int (xs (i + 2)), .int (xs (i + 3)), .int (xs (i + 4)), .ref o9]) (rest := []) (c_Law_value C N (xs (i + 1)) (xs (i + 2)) (xs (i + 3)) (xs (i + 4)) hM hR hW ho9 hlo) (hv_cwW C hZ kc_Law_value kn_Law ⟨rfl, rfl, Nat.le_of_ble_eq_true rfl, Nat.le_of_ble_eq_true rfl⟩) hv_blind (hv_pre hZ hS hP) hx hml hb hown (hts _ k_Law_133) (hts _ ki_Law_value) (hts _ kn_Law) hy_Law_value (hv_sigW (hts _ kc_Law_value)) rfl hl.1 rfl (lv_room (Nat.le_of_ble_eq_true rfl)) d_Law_law_1024 ⟨by show _ ≤ 601024; omega, by show _ ≤ 7293034; omega⟩) hZ hS (fun v9 w1 H locs q2 hP hS => ?_) (fun x9 w1 H locs q2 hP hS => q2.elim)
  obtain ⟨hv9, hk2, w7, hP9, hcase⟩ := q2
  subst hv9
  have hJ1 := hJ.cls hP9
  rcases hcase with ⟨hk9, hw9⟩ | ⟨hk9, hw9⟩
  · have hJ2 : lJ ca L K o9 σ σ f9 w1 := by rw [hw9]; exact hJ1
    show W _ _ _ _ _ _ _ _ _ _ _ _ _ _ _ (F0 m 1027 ls [.int (nI ((x_value σ (xs (i + 1)) (xs (i + 2)) (xs (i + 3)) (xs (i + 4))).1))])
    obtain ⟨-, ⟨t8, A8, B8, hM8, hR8, -⟩, -, -⟩ := id hJ2
    have h3 : w1 (K 0) = some (.inr (7, [.int A8.thrown, .ref (K 1), .ref (K 2), .ref (K 3), .ref (K 4), .ref (K 5), .ref (K 6), .ref (K 7), .ref (K 8), .ref (K 9), .ref (K 10), .ref (K 11), .ref (K 12), .int (nI A8.tapeSize), .ref (K 13), .int A8.error, .int A8.off, .int A8.inside, .int (nI A8.changes), .int (nI A8.earlier), .int (nI A8.logged), .int A8.over, .int (nI A8.loose), .int A8.written, .int (nI A8.due)])) := hM8.1.2 0 (by decide)
    refine lv_istore (lv' := [(5, .int (nI ((x_value σ (xs (i + 1)) (xs (i + 2)) (xs (i + 3)) (xs (i + 4))).1))), (0, .ref b), (1, .ref (L 0)), (2, .ref (K 0)), (3, .ref o9), (4, .int (nI i))]) hx hb d_Law_law_1027 hl (by decide) rfl (fun ls hl => ?_)
    refine lv_aload_n hx hb d_Law_law_1029 rfl (lv_at hl 3 rfl) ?_
    refine lv_aload_n hx hb d_Law_law_1030 rfl (lv_at hl 1 rfl) ?_
    refine lv_iload hx hb d_Law_law_1031 (lv_at hl 5 rfl) ?_
    refine lv_iconst (v := 1) hx hb d_Law_law_1033 (by decide) ?_
    refine gk_iadd (x := i) (y := 1) hx hb d_Law_law_1034 ?_
    refine va_sld hx hb hX hbl hbA hS (vp_in_nI (n := i + 1) (by omega) (by omega)) d_Law_law_1035 ?_
    rw [nI_clamp (n := i + 1) (by omega)]
    refine lv_aload_n hx hb d_Law_law_1036 rfl (lv_at hl 1 rfl) ?_
    refine lv_iload hx hb d_Law_law_1037 (lv_at hl 5 rfl) ?_
    refine lv_iconst (v := 2) hx hb d_Law_law_1039 (by decide) ?_
    refine gk_iadd (x := i) (y := 2) hx hb d_Law_law_1040 ?_
    refine va_sld hx hb hX hbl hbA hS (vp_in_nI (n := i + 2) (by omega) (by omega)) d_Law_law_1041 ?_
    rw [nI_clamp (n := i + 2) (by omega)]
    refine lv_aload_n hx hb d_Law_law_1042 rfl (lv_at hl 1 rfl) ?_
    refine lv_iload hx hb d_Law_law_1043 (lv_at hl 5 rfl) ?_
    refine lv_iconst (v := 3) hx hb d_Law_law_1045 (by decide) ?_
    refine gk_iadd (x := i) (y := 3) hx hb d_Law_law_1046 ?_
    refine va_sld hx hb hX hbl hbA hS (vp_in_nI (n := i + 3) (by omega) (by omega)) d_Law_law_1047 ?_
    rw [nI_clamp (n := i + 3) (by omega)]
    refine lv_aload_n hx hb d_Law_law_1048 rfl (lv_at hl 1 rfl) ?_
    refine lv_iload hx hb d_Law_law_1049 (lv_at hl 5 rfl) ?_
    refine lv_iconst (v := 4) hx hb d_Law_law_1051 (by decide) ?_
    refine gk_iadd (x := i) (y := 4) hx hb d_Law_law_1052 ?_
    refine va_sld hx hb hX hbl hbA hS (vp_in_nI (n := i + 4) (by omega) (by omega)) d_Law_law_1053 ?_
    rw [nI_clamp (n := i + 4) (by omega)]
    refine hv_call (hv_runV (As := [.int (xs (i + 1)), .int (xs (i + 2)), .int (xs (i + 3)), .int (xs (i + 4))]) (rest := []) (c_Model_value C (xs (i + 1)) (xs (i + 2)) (xs (i + 3)) (xs (i + 4)) hM8 hR8 hW) (hv_cw C hZ kc_Model_value kn_Model ⟨rfl, rfl, Nat.le_of_ble_eq_true rfl, Nat.le_of_ble_eq_true rfl⟩) hv_blind (hv_pre hZ hS hP) hx hml hb hown (hts _ k_Law_136) (hts _ ki_Model_value) (hts _ ksel_Model_Model_value) hy_Model_value (hts _ kc_Model_value) (va_recv hK (hv_one hP h3) (ci := 7) (q0 := 0) rfl rfl) rfl hl.1 rfl (lv_room (Nat.le_of_ble_eq_true rfl)) d_Law_law_1054 ⟨by show _ ≤ 601024; omega, by show _ ≤ 7293034; omega⟩) hZ hS (fun v9 w4 H locs q5 hP hS => ?_) (fun x9 w4 H locs q5 hP hS => q5.elim)
    obtain ⟨x8, hv8, hx8, hS8⟩ := q5
    subst hv8
    have hJ3 := hJ2.mod hgx.1 hS8
    show W _ _ _ _ _ _ _ _ _ _ _ _ _ _ _ (F0 m 1057 ls [.long x8])
    obtain ⟨A7, B7, hM7, hR7, ht7⟩ := id hS8
    have h6 : w4 (K 0) = some (.inr (7, [.int A7.thrown, .ref (K 1), .ref (K 2), .ref (K 3), .ref (K 4), .ref (K 5), .ref (K 6), .ref (K 7), .ref (K 8), .ref (K 9), .ref (K 10), .ref (K 11), .ref (K 12), .int (nI A7.tapeSize), .ref (K 13), .int A7.error, .int A7.off, .int A7.inside, .int (nI A7.changes), .int (nI A7.earlier), .int (nI A7.logged), .int A7.over, .int (nI A7.loose), .int A7.written, .int (nI A7.due)])) := hM7.1.2 0 (by decide)
    refine lv_lstore (lv' := [(6, .long x8), (5, .int (nI ((x_value σ (xs (i + 1)) (xs (i + 2)) (xs (i + 3)) (xs (i + 4))).1))), (0, .ref b), (1, .ref (L 0)), (2, .ref (K 0)), (3, .ref o9), (4, .int (nI i))]) hx hb d_Law_law_1057 hl (by decide) rfl (fun ls hl => ?_)
    refine lv_aload_n hx hb d_Law_law_1059 rfl (lv_at hl 4 rfl) ?_
    refine hv_call (hv_runV (As := []) (rest := []) (c_Model_thrown C hM7) (hv_cw C hZ kc_Model_thrown kn_Model ⟨rfl, rfl, Nat.le_of_ble_eq_true rfl, Nat.le_of_ble_eq_true rfl⟩) hv_blind (hv_pre hZ hS hP) hx hml hb hown (hts _ k_Law_65) (hts _ ki_Model_thrown) (hts _ ksel_Model_Model_thrown) hy_Model_thrown (hts _ kc_Model_thrown) (va_recv hK (hv_one hP h6) (ci := 7) (q0 := 0) rfl rfl) rfl hl.1 rfl (lv_room (Nat.le_of_ble_eq_true rfl)) d_Law_law_1060 ⟨by show _ ≤ 601024; omega, by show _ ≤ 7293034; omega⟩) hZ hS (fun v9 w7 H locs q8 hP hS => ?_) (fun x9 w7 H locs q8 hP hS => q8.elim)
    obtain ⟨hv9, hw9⟩ := q8
    subst hv9
    rw [hw9] at hP
    show W _ _ _ _ _ _ _ _ _ _ _ _ _ _ _ (F0 m 1063 ls [.int A7.thrown])
    refine lv_topi (fun v9 e9 => ?_)
    have e9 : v9 = nI ((x_value σ (xs (i + 1)) (xs (i + 2)) (xs (i + 3)) (xs (i + 4))).1) := e9.trans (ht7)
    subst e9
    show W _ _ _ _ _ _ _ _ _ _ _ _ _ _ _ (F0 m 1063 ls [.int (nI ((x_value σ (xs (i + 1)) (xs (i + 2)) (xs (i + 3)) (xs (i + 4))).1))])
    refine lv_iload hx hb d_Law_law_1063 (lv_at hl 1 rfl) ?_
    refine gk_icmp_eq (x := (x_value σ (xs (i + 1)) (xs (i + 2)) (xs (i + 3)) (xs (i + 4))).1) (y := (x_value σ (xs (i + 1)) (xs (i + 2)) (xs (i + 3)) (xs (i + 4))).1) (tgt := 1070) hx hb d_Law_law_1065 (by decide) (by omega) (by omega) (fun c1065 => ?_) (fun c1065 => ?_)
    · refine lv_iload hx hb d_Law_law_1070 (lv_at hl 1 rfl) ?_
      refine gk_if_ne (x := (x_value σ (xs (i + 1)) (xs (i + 2)) (xs (i + 3)) (xs (i + 4))).1) (tgt := 1086) hx hb d_Law_law_1072 (by decide) (by omega) (fun c1072 => ?_) (fun c1072 => ?_)
      · refine lv_goto (tgt := 1114) hx hb d_Law_law_1086 (by decide) ?_
        refine W.widen (k := cells + 9) (n := slots + 69) (by omega) (by omega) ?_
        exact kk _ _ _ ⟨hgx, hJ3⟩ _ _ _ hP hS (lv_sub hl [2, 3, 4, 5, 6] rfl)
      · exact absurd c1072 hk9
    · exact absurd rfl c1065
  · have hJ2 : lJ ca L K o9 σ σ (vp_updL f9 0 ((x_value σ (xs (i + 1)) (xs (i + 2)) (xs (i + 3)) (xs (i + 4))).2)) w1 := by rw [hw9]; exact hJ1.out hgx.1
    show W _ _ _ _ _ _ _ _ _ _ _ _ _ _ _ (F0 m 1027 ls [.int (nI ((x_value σ (xs (i + 1)) (xs (i + 2)) (xs (i + 3)) (xs (i + 4))).1))])
    obtain ⟨-, ⟨t8, A8, B8, hM8, hR8, -⟩, -, -⟩ := id hJ2
    have h9 : w1 (K 0) = some (.inr (7, [.int A8.thrown, .ref (K 1), .ref (K 2), .ref (K 3), .ref (K 4), .ref (K 5), .ref (K 6), .ref (K 7), .ref (K 8), .ref (K 9), .ref (K 10), .ref (K 11), .ref (K 12), .int (nI A8.tapeSize), .ref (K 13), .int A8.error, .int A8.off, .int A8.inside, .int (nI A8.changes), .int (nI A8.earlier), .int (nI A8.logged), .int A8.over, .int (nI A8.loose), .int A8.written, .int (nI A8.due)])) := hM8.1.2 0 (by decide)
    refine lv_istore (lv' := [(5, .int (nI ((x_value σ (xs (i + 1)) (xs (i + 2)) (xs (i + 3)) (xs (i + 4))).1))), (0, .ref b), (1, .ref (L 0)), (2, .ref (K 0)), (3, .ref o9), (4, .int (nI i))]) hx hb d_Law_law_1027 hl (by decide) rfl (fun ls hl => ?_)
    refine lv_aload_n hx hb d_Law_law_1029 rfl (lv_at hl 3 rfl) ?_
    refine lv_aload_n hx hb d_Law_law_1030 rfl (lv_at hl 1 rfl) ?_
    refine lv_iload hx hb d_Law_law_1031 (lv_at hl 5 rfl) ?_
    refine lv_iconst (v := 1) hx hb d_Law_law_1033 (by decide) ?_
    refine gk_iadd (x := i) (y := 1) hx hb d_Law_law_1034 ?_
    refine va_sld hx hb hX hbl hbA hS (vp_in_nI (n := i + 1) (by omega) (by omega)) d_Law_law_1035 ?_
    rw [nI_clamp (n := i + 1) (by omega)]
    refine lv_aload_n hx hb d_Law_law_1036 rfl (lv_at hl 1 rfl) ?_
    refine lv_iload hx hb d_Law_law_1037 (lv_at hl 5 rfl) ?_
    refine lv_iconst (v := 2) hx hb d_Law_law_1039 (by decide) ?_
    refine gk_iadd (x := i) (y := 2) hx hb d_Law_law_1040 ?_
    refine va_sld hx hb hX hbl hbA hS (vp_in_nI (n := i + 2) (by omega) (by omega)) d_Law_law_1041 ?_
    rw [nI_clamp (n := i + 2) (by omega)]
    refine lv_aload_n hx hb d_Law_law_1042 rfl (lv_at hl 1 rfl) ?_
    refine lv_iload hx hb d_Law_law_1043 (lv_at hl 5 rfl) ?_
    refine lv_iconst (v := 3) hx hb d_Law_law_1045 (by decide) ?_
    refine gk_iadd (x := i) (y := 3) hx hb d_Law_law_1046 ?_
    refine va_sld hx hb hX hbl hbA hS (vp_in_nI (n := i + 3) (by omega) (by omega)) d_Law_law_1047 ?_
    rw [nI_clamp (n := i + 3) (by omega)]
    refine lv_aload_n hx hb d_Law_law_1048 rfl (lv_at hl 1 rfl) ?_
    refine lv_iload hx hb d_Law_law_1049 (lv_at hl 5 rfl) ?_
    refine lv_iconst (v := 4) hx hb d_Law_law_1051 (by decide) ?_
    refine gk_iadd (x := i) (y := 4) hx hb d_Law_law_1052 ?_
    refine va_sld hx hb hX hbl hbA hS (vp_in_nI (n := i + 4) (by omega) (by omega)) d_Law_law_1053 ?_
    rw [nI_clamp (n := i + 4) (by omega)]
    refine hv_call (hv_runV (As := [.int (xs (i + 1)), .int (xs (i + 2)), .int (xs (i + 3)), .int (xs (i + 4))]) (rest := []) (c_Model_value C (xs (i + 1)) (xs (i + 2)) (xs (i + 3)) (xs (i + 4)) hM8 hR8 hW) (hv_cw C hZ kc_Model_value kn_Model ⟨rfl, rfl, Nat.le_of_ble_eq_true rfl, Nat.le_of_ble_eq_true rfl⟩) hv_blind (hv_pre hZ hS hP) hx hml hb hown (hts _ k_Law_136) (hts _ ki_Model_value) (hts _ ksel_Model_Model_value) hy_Model_value (hts _ kc_Model_value) (va_recv hK (hv_one hP h9) (ci := 7) (q0 := 0) rfl rfl) rfl hl.1 rfl (lv_room (Nat.le_of_ble_eq_true rfl)) d_Law_law_1054 ⟨by show _ ≤ 601024; omega, by show _ ≤ 7293034; omega⟩) hZ hS (fun v9 w10 H locs q11 hP hS => ?_) (fun x9 w10 H locs q11 hP hS => q11.elim)
    obtain ⟨x8, hv8, hx8, hS8⟩ := q11
    subst hv8
    have hx8 := hx8 hk9
    subst hx8
    have hJ3 := hJ2.mod hgx.1 hS8
    show W _ _ _ _ _ _ _ _ _ _ _ _ _ _ _ (F0 m 1057 ls [.long ((x_value σ (xs (i + 1)) (xs (i + 2)) (xs (i + 3)) (xs (i + 4))).2)])
    obtain ⟨A7, B7, hM7, hR7, ht7⟩ := id hS8
    have h12 : w10 (K 0) = some (.inr (7, [.int A7.thrown, .ref (K 1), .ref (K 2), .ref (K 3), .ref (K 4), .ref (K 5), .ref (K 6), .ref (K 7), .ref (K 8), .ref (K 9), .ref (K 10), .ref (K 11), .ref (K 12), .int (nI A7.tapeSize), .ref (K 13), .int A7.error, .int A7.off, .int A7.inside, .int (nI A7.changes), .int (nI A7.earlier), .int (nI A7.logged), .int A7.over, .int (nI A7.loose), .int A7.written, .int (nI A7.due)])) := hM7.1.2 0 (by decide)
    have h13 : w10 o9 = some (.inl (ca 3, 1, .inr (.inl (vp_updL f9 0 ((x_value σ (xs (i + 1)) (xs (i + 2)) (xs (i + 3)) (xs (i + 4))).2))))) := hJ3.2.2.1
    refine lv_lstore (lv' := [(6, .long ((x_value σ (xs (i + 1)) (xs (i + 2)) (xs (i + 3)) (xs (i + 4))).2)), (5, .int (nI ((x_value σ (xs (i + 1)) (xs (i + 2)) (xs (i + 3)) (xs (i + 4))).1))), (0, .ref b), (1, .ref (L 0)), (2, .ref (K 0)), (3, .ref o9), (4, .int (nI i))]) hx hb d_Law_law_1057 hl (by decide) rfl (fun ls hl => ?_)
    refine lv_aload_n hx hb d_Law_law_1059 rfl (lv_at hl 4 rfl) ?_
    refine hv_call (hv_runV (As := []) (rest := []) (c_Model_thrown C hM7) (hv_cw C hZ kc_Model_thrown kn_Model ⟨rfl, rfl, Nat.le_of_ble_eq_true rfl, Nat.le_of_ble_eq_true rfl⟩) hv_blind (hv_pre hZ hS hP) hx hml hb hown (hts _ k_Law_65) (hts _ ki_Model_thrown) (hts _ ksel_Model_Model_thrown) hy_Model_thrown (hts _ kc_Model_thrown) (va_recv hK (hv_one hP h12) (ci := 7) (q0 := 0) rfl rfl) rfl hl.1 rfl (lv_room (Nat.le_of_ble_eq_true rfl)) d_Law_law_1060 ⟨by show _ ≤ 601024; omega, by show _ ≤ 7293034; omega⟩) hZ hS (fun v9 w14 H locs q15 hP hS => ?_) (fun x9 w14 H locs q15 hP hS => q15.elim)
    obtain ⟨hv9, hw9⟩ := q15
    subst hv9
    rw [hw9] at hP
    show W _ _ _ _ _ _ _ _ _ _ _ _ _ _ _ (F0 m 1063 ls [.int A7.thrown])
    refine lv_topi (fun v9 e9 => ?_)
    have e9 : v9 = nI ((x_value σ (xs (i + 1)) (xs (i + 2)) (xs (i + 3)) (xs (i + 4))).1) := e9.trans (ht7)
    subst e9
    show W _ _ _ _ _ _ _ _ _ _ _ _ _ _ _ (F0 m 1063 ls [.int (nI ((x_value σ (xs (i + 1)) (xs (i + 2)) (xs (i + 3)) (xs (i + 4))).1))])
    refine lv_iload hx hb d_Law_law_1063 (lv_at hl 1 rfl) ?_
    refine gk_icmp_eq (x := (x_value σ (xs (i + 1)) (xs (i + 2)) (xs (i + 3)) (xs (i + 4))).1) (y := (x_value σ (xs (i + 1)) (xs (i + 2)) (xs (i + 3)) (xs (i + 4))).1) (tgt := 1070) hx hb d_Law_law_1065 (by decide) (by omega) (by omega) (fun c1065 => ?_) (fun c1065 => ?_)
    · refine lv_iload hx hb d_Law_law_1070 (lv_at hl 1 rfl) ?_
      refine gk_if_ne (x := (x_value σ (xs (i + 1)) (xs (i + 2)) (xs (i + 3)) (xs (i + 4))).1) (tgt := 1086) hx hb d_Law_law_1072 (by decide) (by omega) (fun c1072 => ?_) (fun c1072 => ?_)
      · exact absurd hk9 c1072
      · refine lv_aload_n hx hb d_Law_law_1075 rfl (lv_at hl 5 rfl) ?_
        refine lv_iconst (v := 0) hx hb d_Law_law_1076 (by decide) ?_
        refine va_lald hx hb hK (hv_one hP h13) 0 3 rfl rfl (vp_in_nI (n := 0) (by omega) (by omega)) d_Law_law_1077 ?_
        rw [show Int32.toNatClampNeg 0 = 0 by decide]
        refine lv_topl (fun v9 e9 => ?_)
        have e9 : v9 = (x_value σ (xs (i + 1)) (xs (i + 2)) (xs (i + 3)) (xs (i + 4))).2 := e9.trans (m_uLs)
        subst e9
        show W _ _ _ _ _ _ _ _ _ _ _ _ _ _ _ (F0 m 1078 ls [.long ((x_value σ (xs (i + 1)) (xs (i + 2)) (xs (i + 3)) (xs (i + 4))).2)])
        refine lv_lload hx hb d_Law_law_1078 (lv_at hl 0 rfl) ?_
        refine W.lcmp hx hb d_Law_law_1080 ?_
        refine lv_if_eq (tgt := 1086) hx hb d_Law_law_1081 (by decide) (fun c1081 => ?_) (fun c1081 => ?_)
        · refine lv_goto (tgt := 1114) hx hb d_Law_law_1086 (by decide) ?_
          refine W.widen (k := cells + 9) (n := slots + 69) (by omega) (by omega) ?_
          exact kk _ _ _ ⟨hgx, hJ3⟩ _ _ _ hP hS (lv_sub hl [2, 3, 4, 5, 6] rfl)
        · exact absurd (g_lcmp_refl _) c1081
    · exact absurd rfl c1065

set_option maxHeartbeats 4000000 in
set_option maxRecDepth 100000 in
theorem lc_state {p : Program} {l : Launch} {e : Env} {s : State} {m : MethodId} {below : List Frame} {meth : Method} {c : Code} {D : va_G} {ca : Nat → ClassId} {b n0 : Nat} {xs : Nat → Int32} {Q : State → Prop} (F : lF l s D ca p m c b n0 xs) {L K : Nat → Nat} {o9 i cells slots : Nat} (hi : i + 7 ≤ n0) (hcl : cells + 9 ≤ 601024) (hsl : slots + 69 ≤ 7293034) (kk : lKK p l e s m below meth c D ca L K o9 b i cells slots Q)
    {w : hv_W} {σ : gS} {f9 : Nat → Int64} (I : lI ca L K o9 σ f9 w) {H : Heap} {locs : List Loc} {ls : Array Slot} (hP : hv_P D classes s.heap.size w H) (hS : va_S (hv_A s.heap.size) s.heap H locs) (hl : lv_has ls 8 (lLoc b L K o9 i)) : W p l e room_1 s m #[Value.ref b] below meth c H locs cells slots Q (F0 m 1089 ls []) := by
  obtain ⟨C, N, hx, hb, hml, hown, hts, hX, hbl, hn0⟩ := F
  have hK : va_K D classes (hv_tys ca) s := C.1
  have hZ : hv_Z s s := hv_Z.refl s
  have hbA : ¬ hv_A s.heap.size b := Nat.not_le.mpr hbl
  have hl : lv_has ls 8 [(0, .ref b), (1, .ref (L 0)), (2, .ref (K 0)), (3, .ref o9), (4, .int (nI i))] := hl
  obtain ⟨hgx, hJ⟩ := I
  have hW : gW σ := hgx.1
  obtain ⟨⟨P, hM, hR⟩, -, ho9, hap⟩ := id hJ
  have hlo : ¬ cM L o9 := hap.2.2.1
  have h0 : w (L 0) = some (.inr (0, [.ref (L 1), .ref (L 2), .ref (L 3), .ref (L 4), .ref (L 5), .ref (L 6), .ref (L 7), .int (σ.err), .int (nI σ.sc), .int (nI σ.ec), .int (σ.ins), .int (σ.off)])) := hM.1.2 0 (by decide)
  obtain ⟨-, ⟨t8, A8, B8, hM8, hR8, -⟩, -, -⟩ := id hJ
  have h1 : w (K 0) = some (.inr (7, [.int A8.thrown, .ref (K 1), .ref (K 2), .ref (K 3), .ref (K 4), .ref (K 5), .ref (K 6), .ref (K 7), .ref (K 8), .ref (K 9), .ref (K 10), .ref (K 11), .ref (K 12), .int (nI A8.tapeSize), .ref (K 13), .int A8.error, .int A8.off, .int A8.inside, .int (nI A8.changes), .int (nI A8.earlier), .int (nI A8.logged), .int A8.over, .int (nI A8.loose), .int A8.written, .int (nI A8.due)])) := hM8.1.2 0 (by decide)
  refine lv_aload_n hx hb d_Law_law_1089 rfl (lv_at hl 1 rfl) ?_
  refine lv_aload_n hx hb d_Law_law_1090 rfl (lv_at hl 0 rfl) ?_
  refine lv_iload hx hb d_Law_law_1091 (lv_at hl 4 rfl) ?_
  refine lv_iconst (v := 1) hx hb d_Law_law_1093 (by decide) ?_
  refine gk_iadd (x := i) (y := 1) hx hb d_Law_law_1094 ?_
  refine va_sld hx hb hX hbl hbA hS (vp_in_nI (n := i + 1) (by omega) (by omega)) d_Law_law_1095 ?_
  rw [nI_clamp (n := i + 1) (by omega)]
  refine hv_call (hv_runV (As := [.int (xs (i + 1))]) (rest := []) (c_GK_state C N (xs (i + 1)) hM hR hW) (hv_cw C hZ kc_GK_state kn_GK ⟨rfl, rfl, Nat.le_of_ble_eq_true rfl, Nat.le_of_ble_eq_true rfl⟩) hv_blind (hv_pre hZ hS hP) hx hml hb hown (hts _ k_Law_137) (hts _ ki_GK_state) (hts _ ksel_GK_GK_state) hy_GK_state (hts _ kc_GK_state) (va_recv hK (hv_one hP h0) (ci := 0) (q0 := 0) rfl rfl) rfl hl.1 rfl (lv_room (Nat.le_of_ble_eq_true rfl)) d_Law_law_1096 ⟨by show _ ≤ 601024; omega, by show _ ≤ 7293034; omega⟩) hZ hS (fun v9 w2 H locs q3 hP hS => ?_) (fun x9 w2 H locs q3 hP hS => q3.elim)
  obtain ⟨hv9, hw9⟩ := q3
  subst hv9
  rw [hw9] at hP
  show W _ _ _ _ _ _ _ _ _ _ _ _ _ _ _ (F0 m 1099 ls [.int ((x_state σ (xs (i + 1))))])
  refine lv_aload_n hx hb d_Law_law_1099 rfl (lv_at hl 2 rfl) ?_
  refine lv_aload_n hx hb d_Law_law_1100 rfl (lv_at hl 0 rfl) ?_
  refine lv_iload hx hb d_Law_law_1101 (lv_at hl 4 rfl) ?_
  refine lv_iconst (v := 1) hx hb d_Law_law_1103 (by decide) ?_
  refine gk_iadd (x := i) (y := 1) hx hb d_Law_law_1104 ?_
  refine va_sld hx hb hX hbl hbA hS (vp_in_nI (n := i + 1) (by omega) (by omega)) d_Law_law_1105 ?_
  rw [nI_clamp (n := i + 1) (by omega)]
  refine hv_call (hv_runV (As := [.int (xs (i + 1))]) (rest := [.int ((x_state σ (xs (i + 1))))]) (c_Model_state C (xs (i + 1)) hM8 hR8 hW) (hv_cw C hZ kc_Model_state kn_Model ⟨rfl, rfl, Nat.le_of_ble_eq_true rfl, Nat.le_of_ble_eq_true rfl⟩) hv_blind (hv_pre hZ hS hP) hx hml hb hown (hts _ k_Law_141) (hts _ ki_Model_state) (hts _ ksel_Model_Model_state) hy_Model_state (hts _ kc_Model_state) (va_recv hK (hv_one hP h1) (ci := 7) (q0 := 0) rfl rfl) rfl hl.1 rfl (lv_room (Nat.le_of_ble_eq_true rfl)) d_Law_law_1106 ⟨by show _ ≤ 601024; omega, by show _ ≤ 7293034; omega⟩) hZ hS (fun v9 w4 H locs q5 hP hS => ?_) (fun x9 w4 H locs q5 hP hS => q5.elim)
  obtain ⟨hv8, hS8⟩ := q5
  subst hv8
  have hJ2 := hJ.mod hW hS8
  show W _ _ _ _ _ _ _ _ _ _ _ _ _ _ _ (F0 m 1109 ls [.int ((x_state σ (xs (i + 1)))), .int ((x_state σ (xs (i + 1))))])
  refine lv_icmp_eq (tgt := 1114) hx hb d_Law_law_1109 (by decide) (fun c1109 => ?_) (fun c1109 => ?_)
  · refine W.widen (k := cells + 9) (n := slots + 69) (by omega) (by omega) ?_
    exact kk _ _ _ ⟨hgx, hJ2⟩ _ _ _ hP hS (lv_sub hl [0, 1, 2, 3, 4] rfl)
  · exact absurd rfl c1109
