theorem lw_more {n0 k : Nat} (hn : n0 ≤ 3584) (hk : 7 * k < 2 ^ 31) (h : ¬ nI n0 - 7 < nI (7 * k)) : 7 * k + 7 ≤ n0 := by
  by_cases h7 : 7 ≤ n0
  · rw [show nI n0 - 7 = nI (n0 - 7) from gk_nsub (b := 7) h7] at h
    have h2 := (nI_leI hk (by omega)).mp (Int32.not_lt.mp h)
    omega
  · have key : ∀ n, n < 7 → nI n - 7 < 0 := by decide
    exact absurd (Int32.lt_of_lt_of_le (key n0 (by omega)) (Int32.not_lt.mp (nI_pos hk))) h
set_option maxHeartbeats 4000000 in
set_option maxRecDepth 100000 in
theorem lw_loop {p : Program} {l : Launch} {e : Env} {s : State} {m : MethodId} {below : List Frame} {meth : Method} {c : Code} {D : va_G} {ca : Nat → ClassId} {b n0 : Nat} {xs : Nat → Int32} {Q : State → Prop} (F : lF l s D ca p m c b n0 xs) {L K : Nat → Nat} {o9 : Nat} (hend : ∀ (H : Heap) (locs : List Loc) (ls : Array Slot) (cells slots : Nat), cells ≤ 601024 → slots ≤ 7293034 → va_S (hv_A s.heap.size) s.heap H locs → W p l e room_1 s m #[Value.ref b] below meth c H locs cells slots Q (F0 m 1120 ls [])) :
    ∀ (n9 k : Nat), n0 - 7 * k < n9 → k ≤ 512 → ∀ (w : hv_W) (σ : gS) (f9 : Nat → Int64), lI ca L K o9 σ f9 w → ∀ (H : Heap) (locs : List Loc) (ls : Array Slot), hv_P D classes s.heap.size w H → va_S (hv_A s.heap.size) s.heap H locs → lv_has ls 8 (lLoc b L K o9 (7 * k)) → W p l e room_1 s m #[Value.ref b] below meth c H locs (100 + 9 * k) (40000 + 69 * k) Q (F0 m 23 ls []) := by
  obtain ⟨C, N, hx, hb, hml, hown, hts, hX, hbl, hn0⟩ := id F
  have hbA : ¬ hv_A s.heap.size b := Nat.not_le.mpr hbl
  intro n9
  induction n9 with
  | zero =>
    intro k hn
    exact absurd hn (Nat.not_lt_zero _)
  | succ n9 ih =>
    intro k hn hk w σ f9 I H locs ls hP hS hl
    have hl : lv_has ls 8 [(0, .ref b), (1, .ref (L 0)), (2, .ref (K 0)), (3, .ref o9), (4, .int (nI (7 * k)))] := hl
    refine lv_iload hx hb d_Law_law_23 (lv_at hl 4 rfl) ?_
    refine lv_aload_n hx hb d_Law_law_25 rfl (lv_at hl 0 rfl) ?_
    refine va_slen hx hb hX hbl hbA hS d_Law_law_26 ?_
    refine lv_bipush (v := 7) hx hb d_Law_law_27 (by decide) ?_
    refine lv_isub hx hb d_Law_law_29 ?_
    refine lv_icmp_gt (tgt := 1120) hx hb d_Law_law_30 (by decide) (fun c30 => ?_) (fun c30 => ?_)
    · exact hend _ _ _ _ _ (by omega) (by omega) hS
    · have hi : 7 * k + 7 ≤ n0 := lw_more hn0 (by omega) c30
      have kk : lKK p l e s m below meth c D ca L K o9 b (7 * k) (100 + 9 * k) (40000 + 69 * k) Q := by
        intro w2 σ2 f2 I2 H2 locs2 ls2 hP2 hS2 hl2
        refine lv_iinc (v := nI (7 * k + 7)) (lv' := [(4, .int (nI (7 * k + 7))), (0, .ref b), (1, .ref (L 0)), (2, .ref (K 0)), (3, .ref o9)]) hx hb d_Law_law_1114 hl2 (k := 4) rfl (nI_add (7 * k) 7) (by decide) rfl (fun ls3 hl3 => ?_)
        refine lv_goto (tgt := 23) hx hb d_Law_law_1117 (by decide) ?_
        refine W.cs (cells' := 100 + 9 * (k + 1)) (slots' := 40000 + 69 * (k + 1)) (by omega) (by omega) ?_
        exact ih (k + 1) (by omega) (by omega) w2 σ2 f2 I2 H2 locs2 ls3 hP2 hS2 (lv_sub hl3 [1, 2, 3, 4, 0] rfl)
      refine lv_aload_n hx hb d_Law_law_33 rfl (lv_at hl 0 rfl) ?_
      refine lv_iload hx hb d_Law_law_34 (lv_at hl 4 rfl) ?_
      refine va_sld hx hb hX hbl hbA hS (vp_in_nI (n := 7 * k) (by omega) (by omega)) d_Law_law_36 ?_
      rw [nI_clamp (n := 7 * k) (by omega)]
      refine lv_bipush (v := 31) hx hb d_Law_law_37 (by decide) ?_
      refine lv_iand hx hb d_Law_law_39 ?_
      by_cases s40_0 : (xs (7 * k)) &&& 31 = 0
      · refine lv_tableIn (tgt := 136) hx hb d_Law_law_40 (by rw [s40_0]; decide) (by rw [s40_0]; decide) (by rw [s40_0]; rfl) (by decide) ?_
        exact lc_type F hi (by omega) (by omega) kk I hP hS hl
      by_cases s40_1 : (xs (7 * k)) &&& 31 = 1
      · refine lv_tableIn (tgt := 205) hx hb d_Law_law_40 (by rw [s40_1]; decide) (by rw [s40_1]; decide) (by rw [s40_1]; rfl) (by decide) ?_
        exact lc_node F hi (by omega) (by omega) kk I hP hS hl
      by_cases s40_2 : (xs (7 * k)) &&& 31 = 2
      · refine lv_tableIn (tgt := 249) hx hb d_Law_law_40 (by rw [s40_2]; decide) (by rw [s40_2]; decide) (by rw [s40_2]; rfl) (by decide) ?_
        exact lc_label F hi (by omega) (by omega) kk I hP hS hl
      by_cases s40_3 : (xs (7 * k)) &&& 31 = 3
      · refine lv_tableIn (tgt := 352) hx hb d_Law_law_40 (by rw [s40_3]; decide) (by rw [s40_3]; decide) (by rw [s40_3]; rfl) (by decide) ?_
        exact lc_property F hi (by omega) (by omega) kk I hP hS hl
      by_cases s40_4 : (xs (7 * k)) &&& 31 = 4
      · refine lv_tableIn (tgt := 497) hx hb d_Law_law_40 (by rw [s40_4]; decide) (by rw [s40_4]; decide) (by rw [s40_4]; rfl) (by decide) ?_
        exact lc_link F hi (by omega) (by omega) kk I hP hS hl
      by_cases s40_5 : (xs (7 * k)) &&& 31 = 5
      · refine lv_tableIn (tgt := 577) hx hb d_Law_law_40 (by rw [s40_5]; decide) (by rw [s40_5]; decide) (by rw [s40_5]; rfl) (by decide) ?_
        exact lc_take F hi (by omega) (by omega) kk I hP hS hl
      by_cases s40_6 : (xs (7 * k)) &&& 31 = 6
      · refine lv_tableIn (tgt := 625) hx hb d_Law_law_40 (by rw [s40_6]; decide) (by rw [s40_6]; decide) (by rw [s40_6]; rfl) (by decide) ?_
        exact lc_error F hi (by omega) (by omega) kk I hP hS hl
      by_cases s40_7 : (xs (7 * k)) &&& 31 = 7
      · refine lv_tableIn (tgt := 638) hx hb d_Law_law_40 (by rw [s40_7]; decide) (by rw [s40_7]; decide) (by rw [s40_7]; rfl) (by decide) ?_
        exact lc_done F hi (by omega) (by omega) kk I hP hS hl
      by_cases s40_8 : (xs (7 * k)) &&& 31 = 8
      · refine lv_tableIn (tgt := 682) hx hb d_Law_law_40 (by rw [s40_8]; decide) (by rw [s40_8]; decide) (by rw [s40_8]; rfl) (by decide) ?_
        exact lc_undo F hi (by omega) (by omega) kk I hP hS hl
      by_cases s40_9 : (xs (7 * k)) &&& 31 = 9
      · refine lv_tableIn (tgt := 695) hx hb d_Law_law_40 (by rw [s40_9]; decide) (by rw [s40_9]; decide) (by rw [s40_9]; rfl) (by decide) ?_
        exact lc_begin F hi (by omega) (by omega) kk I hP hS hl
      by_cases s40_10 : (xs (7 * k)) &&& 31 = 10
      · refine lv_tableIn (tgt := 708) hx hb d_Law_law_40 (by rw [s40_10]; decide) (by rw [s40_10]; decide) (by rw [s40_10]; rfl) (by decide) ?_
        exact lc_commit F hi (by omega) (by omega) kk I hP hS hl
      by_cases s40_11 : (xs (7 * k)) &&& 31 = 11
      · refine lv_tableIn (tgt := 752) hx hb d_Law_law_40 (by rw [s40_11]; decide) (by rw [s40_11]; decide) (by rw [s40_11]; rfl) (by decide) ?_
        exact lc_rollback F hi (by omega) (by omega) kk I hP hS hl
      by_cases s40_12 : (xs (7 * k)) &&& 31 = 12
      · refine lv_tableIn (tgt := 765) hx hb d_Law_law_40 (by rw [s40_12]; decide) (by rw [s40_12]; decide) (by rw [s40_12]; rfl) (by decide) ?_
        exact lc_checkpoint F hi (by omega) (by omega) kk I hP hS hl
      by_cases s40_13 : (xs (7 * k)) &&& 31 = 13
      · refine lv_tableIn (tgt := 809) hx hb d_Law_law_40 (by rw [s40_13]; decide) (by rw [s40_13]; decide) (by rw [s40_13]; rfl) (by decide) ?_
        exact lc_cut F hi (by omega) (by omega) kk I hP hS hl
      by_cases s40_14 : (xs (7 * k)) &&& 31 = 14
      · refine lv_tableIn (tgt := 834) hx hb d_Law_law_40 (by rw [s40_14]; decide) (by rw [s40_14]; decide) (by rw [s40_14]; rfl) (by decide) ?_
        exact lc_recover F hi (by omega) (by omega) kk I hP hS hl
      by_cases s40_15 : (xs (7 * k)) &&& 31 = 15
      · refine lv_tableIn (tgt := 847) hx hb d_Law_law_40 (by rw [s40_15]; decide) (by rw [s40_15]; decide) (by rw [s40_15]; rfl) (by decide) ?_
        exact lc_thing F hi (by omega) (by omega) kk I hP hS hl
      by_cases s40_16 : (xs (7 * k)) &&& 31 = 16
      · refine lv_tableIn (tgt := 896) hx hb d_Law_law_40 (by rw [s40_16]; decide) (by rw [s40_16]; decide) (by rw [s40_16]; rfl) (by decide) ?_
        exact lc_chain F hi (by omega) (by omega) kk I hP hS hl
      by_cases s40_17 : (xs (7 * k)) &&& 31 = 17
      · refine lv_tableIn (tgt := 961) hx hb d_Law_law_40 (by rw [s40_17]; decide) (by rw [s40_17]; decide) (by rw [s40_17]; rfl) (by decide) ?_
        exact lc_has F hi (by omega) (by omega) kk I hP hS hl
      by_cases s40_18 : (xs (7 * k)) &&& 31 = 18
      · refine lv_tableIn (tgt := 998) hx hb d_Law_law_40 (by rw [s40_18]; decide) (by rw [s40_18]; decide) (by rw [s40_18]; rfl) (by decide) ?_
        exact lc_value F hi (by omega) (by omega) kk I hP hS hl
      by_cases s40_19 : (xs (7 * k)) &&& 31 = 19
      · refine lv_tableIn (tgt := 1089) hx hb d_Law_law_40 (by rw [s40_19]; decide) (by rw [s40_19]; decide) (by rw [s40_19]; rfl) (by decide) ?_
        exact lc_state F hi (by omega) (by omega) kk I hP hS hl
      have t40_0 : ((xs (7 * k)) &&& 31).toInt ≠ 0 := fun q => s40_0 (Int32.toInt_inj.mp (q.trans (by decide)))
      have t40_1 : ((xs (7 * k)) &&& 31).toInt ≠ 1 := fun q => s40_1 (Int32.toInt_inj.mp (q.trans (by decide)))
      have t40_2 : ((xs (7 * k)) &&& 31).toInt ≠ 2 := fun q => s40_2 (Int32.toInt_inj.mp (q.trans (by decide)))
      have t40_3 : ((xs (7 * k)) &&& 31).toInt ≠ 3 := fun q => s40_3 (Int32.toInt_inj.mp (q.trans (by decide)))
      have t40_4 : ((xs (7 * k)) &&& 31).toInt ≠ 4 := fun q => s40_4 (Int32.toInt_inj.mp (q.trans (by decide)))
      have t40_5 : ((xs (7 * k)) &&& 31).toInt ≠ 5 := fun q => s40_5 (Int32.toInt_inj.mp (q.trans (by decide)))
      have t40_6 : ((xs (7 * k)) &&& 31).toInt ≠ 6 := fun q => s40_6 (Int32.toInt_inj.mp (q.trans (by decide)))
      have t40_7 : ((xs (7 * k)) &&& 31).toInt ≠ 7 := fun q => s40_7 (Int32.toInt_inj.mp (q.trans (by decide)))
      have t40_8 : ((xs (7 * k)) &&& 31).toInt ≠ 8 := fun q => s40_8 (Int32.toInt_inj.mp (q.trans (by decide)))
      have t40_9 : ((xs (7 * k)) &&& 31).toInt ≠ 9 := fun q => s40_9 (Int32.toInt_inj.mp (q.trans (by decide)))
      have t40_10 : ((xs (7 * k)) &&& 31).toInt ≠ 10 := fun q => s40_10 (Int32.toInt_inj.mp (q.trans (by decide)))
      have t40_11 : ((xs (7 * k)) &&& 31).toInt ≠ 11 := fun q => s40_11 (Int32.toInt_inj.mp (q.trans (by decide)))
      have t40_12 : ((xs (7 * k)) &&& 31).toInt ≠ 12 := fun q => s40_12 (Int32.toInt_inj.mp (q.trans (by decide)))
      have t40_13 : ((xs (7 * k)) &&& 31).toInt ≠ 13 := fun q => s40_13 (Int32.toInt_inj.mp (q.trans (by decide)))
      have t40_14 : ((xs (7 * k)) &&& 31).toInt ≠ 14 := fun q => s40_14 (Int32.toInt_inj.mp (q.trans (by decide)))
      have t40_15 : ((xs (7 * k)) &&& 31).toInt ≠ 15 := fun q => s40_15 (Int32.toInt_inj.mp (q.trans (by decide)))
      have t40_16 : ((xs (7 * k)) &&& 31).toInt ≠ 16 := fun q => s40_16 (Int32.toInt_inj.mp (q.trans (by decide)))
      have t40_17 : ((xs (7 * k)) &&& 31).toInt ≠ 17 := fun q => s40_17 (Int32.toInt_inj.mp (q.trans (by decide)))
      have t40_18 : ((xs (7 * k)) &&& 31).toInt ≠ 18 := fun q => s40_18 (Int32.toInt_inj.mp (q.trans (by decide)))
      have t40_19 : ((xs (7 * k)) &&& 31).toInt ≠ 19 := fun q => s40_19 (Int32.toInt_inj.mp (q.trans (by decide)))
      refine lv_tableOut (tgt := 1114) hx hb d_Law_law_40 (by omega) (by decide) ?_
      refine W.widen (k := 100 + 9 * k + 9) (n := 40000 + 69 * k + 69) (by omega) (by omega) ?_
      exact kk _ _ _ I _ _ _ hP hS hl
set_option maxHeartbeats 4000000 in
set_option maxRecDepth 100000 in
theorem lw_body {p : Program} {l : Launch} {e : Env} {s : State} {m : MethodId} {below : List Frame} {meth : Method} {c : Code} {D : va_G} {ca : Nat → ClassId} {b n0 : Nat} {xs : Nat → Int32} {Q : State → Prop} (F : lF l s D ca p m c b n0 xs) (hend : ∀ (H : Heap) (locs : List Loc) (ls : Array Slot) (cells slots : Nat), cells ≤ 601024 → slots ≤ 7293034 → va_S (hv_A s.heap.size) s.heap H locs → W p l e room_1 s m #[Value.ref b] below meth c H locs cells slots Q (F0 m 1120 ls [])) {ls : Array Slot} (hl : lv_has ls 8 [(0, .ref b)]) : W p l e room_1 s m #[Value.ref b] below meth c s.heap [] 0 0 Q (F0 m 0 ls []) := by
  obtain ⟨C, N, hx, hb, hml, hown, hts, hX, hbl, hn0⟩ := id F
  have hK : va_K D classes (hv_tys ca) s := C.1
  have hZ : hv_Z s s := hv_Z.refl s
  have hbA : ¬ hv_A s.heap.size b := Nat.not_le.mpr hbl
  have hl : lv_has ls 8 [(0, .ref b)] := hl
  have hS : va_S (hv_A s.heap.size) s.heap s.heap [] := va_S.rf
  obtain ⟨w, hw0⟩ : ∃ z9 : hv_W, z9 = fun _ => none := ⟨_, rfl⟩
  have hP : hv_P D classes s.heap.size w s.heap := fun a9 e9 h9 => by rw [hw0] at h9; cases h9
  refine hv_new (ci := 0) (fs := [.null, .null, .null, .null, .null, .null, .null, .int 0, .int 0, .int 0, .int 0, .int 0]) (C := R_GK) (T := F_GK) (N := 12) hx hb hts i_GK t_GK t_GK_ok hown (hts _ k_Law_8) (hts _ kin_GK) (hts _ kn_GK) hK hP hS hZ.2.1 rfl z_GK (Nat.le_of_ble_eq_true rfl) (Nat.le_of_ble_eq_true rfl) d_Law_law_0 (fun q1 H hq2 hP hS => ?_)
  obtain ⟨w3, ew3⟩ : ∃ z9 : hv_W, z9 = va_up w q1 (some (.inr (0, [.null, .null, .null, .null, .null, .null, .null, .int 0, .int 0, .int 0, .int 0, .int 0]))) := ⟨_, rfl⟩
  have hP : hv_P D classes s.heap.size w3 H := by rw [ew3]; exact hP
  have h4 : w3 q1 = some (.inr (0, [.null, .null, .null, .null, .null, .null, .null, .int 0, .int 0, .int 0, .int 0, .int 0])) := by rw [ew3]; exact hv_up_s
  refine W.widen (k := 1) (n := 12) (by omega) (by omega) ?_
  show W _ _ _ _ _ _ _ _ _ _ _ _ _ _ _ (F0 m 3 ls [.ref q1])
  refine lv_dup hx hb d_Law_law_3 rfl ?_
  refine hv_call (hv_runI (As := []) (rest := [.ref q1]) (c_GK_init C h4) (hv_cw C hZ kc_GK_init kn_GK ⟨rfl, rfl, Nat.le_of_ble_eq_true rfl, Nat.le_of_ble_eq_true rfl⟩) hv_blind (hv_pre hZ hS hP) hx hml hb hown (hts _ k_Law_48) (hts _ ki_GK_init) rfl hy_GK_init (hts _ kc_GK_init) rfl hl.1 rfl (lv_room (Nat.le_of_ble_eq_true rfl)) d_Law_law_4 ⟨Nat.le_of_ble_eq_true rfl, Nat.le_of_ble_eq_true rfl⟩) hZ hS (fun v9 w5 H locs q6 hP hS => ?_) (fun x9 w5 H locs q6 hP hS => q6.elim)
  obtain ⟨hv9, L, hL0, hP9, hLn⟩ := q6
  subst hv9
  have hc1 : cP ca L w5 gS0 w5 := hP9.re
  rw [← hL0]
  show W _ _ _ _ _ _ _ _ _ _ _ _ _ _ _ (F0 m 7 ls [.ref (L 0)])
  refine lv_astore_n (lv' := [(1, .ref (L 0)), (0, .ref b)]) hx hb d_Law_law_7 rfl hl (by decide) rfl (fun ls hl => ?_)
  refine hv_new (ci := 7) (fs := [.int 0, .null, .null, .null, .null, .null, .null, .null, .null, .null, .null, .null, .null, .int 0, .null, .int 0, .int 0, .int 0, .int 0, .int 0, .int 0, .int 0, .int 0, .int 0, .int 0]) (C := R_Model) (T := F_Model) (N := 25) hx hb hts i_Model t_Model t_Model_ok hown (hts _ k_Law_49) (hts _ kin_Model) (hts _ kn_Model) hK hP hS hZ.2.1 rfl z_Model (Nat.le_of_ble_eq_true rfl) (Nat.le_of_ble_eq_true rfl) d_Law_law_8 (fun q7 H hq8 hP hS => ?_)
  obtain ⟨w9, ew9⟩ : ∃ z9 : hv_W, z9 = va_up w5 q7 (some (.inr (7, [.int 0, .null, .null, .null, .null, .null, .null, .null, .null, .null, .null, .null, .null, .int 0, .null, .int 0, .int 0, .int 0, .int 0, .int 0, .int 0, .int 0, .int 0, .int 0, .int 0]))) := ⟨_, rfl⟩
  have hP : hv_P D classes s.heap.size w9 H := by rw [ew9]; exact hP
  have h10 : w9 q7 = some (.inr (7, [.int 0, .null, .null, .null, .null, .null, .null, .null, .null, .null, .null, .null, .null, .int 0, .null, .int 0, .int 0, .int 0, .int 0, .int 0, .int 0, .int 0, .int 0, .int 0, .int 0])) := by rw [ew9]; exact hv_up_s
  refine W.widen (k := 16) (n := 714) (by omega) (by omega) ?_
  show W _ _ _ _ _ _ _ _ _ _ _ _ _ _ _ (F0 m 11 ls [.ref q7])
  refine lv_dup hx hb d_Law_law_11 rfl ?_
  refine hv_call (hv_runI (As := []) (rest := [.ref q7]) (c_Model_init C h10) (hv_cw C hZ kc_Model_init kn_Model ⟨rfl, rfl, Nat.le_of_ble_eq_true rfl, Nat.le_of_ble_eq_true rfl⟩) hv_blind (hv_pre hZ hS hP) hx hml hb hown (hts _ k_Law_51) (hts _ ki_Model_init) rfl hy_Model_init (hts _ kc_Model_init) rfl hl.1 rfl (lv_room (Nat.le_of_ble_eq_true rfl)) d_Law_law_12 ⟨Nat.le_of_ble_eq_true rfl, Nat.le_of_ble_eq_true rfl⟩) hZ hS (fun v9 w11 H locs q12 hP hS => ?_) (fun x9 w11 H locs q12 hP hS => q12.elim)
  obtain ⟨hv9, K, hK0, hS9, hgk, hKn⟩ := q12
  subst hv9
  have hg13 : g_grow w5 w11 := fun b9 e9 h9 => hgk b9 e9 (hv_ne_f hq8 h9) (by rw [ew9]; exact hv_up_f hq8 h9)
  have hLK : ∀ i, i < 15 → ¬ mM K (L i) := fun i hi => hKn (L i) (fun z => by obtain ⟨P9, hM9, -⟩ := id hc1; obtain ⟨e9, he9⟩ := hM9.cell hi; exact hv_ne_f hq8 he9 z) (fun z => by obtain ⟨P9, hM9, -⟩ := id hc1; obtain ⟨e9, he9⟩ := hM9.cell hi; rw [ew9, hv_up_f hq8 he9] at z; cases z)
  have hKL : ∀ j, j < 14 → ¬ cM L (K j) := fun j hj ⟨i, hi, z⟩ => hLK i hi ⟨j, hj, z.symm⟩
  rw [← hK0]
  show W _ _ _ _ _ _ _ _ _ _ _ _ _ _ _ (F0 m 15 ls [.ref (K 0)])
  refine lv_astore_n (lv' := [(2, .ref (K 0)), (1, .ref (L 0)), (0, .ref b)]) hx hb d_Law_law_15 rfl hl (by decide) rfl (fun ls hl => ?_)
  refine lv_iconst (v := 1) hx hb d_Law_law_16 (by decide) ?_
  refine hv_newa (a0 := (1, .inr (.inl (fun _ => 0)))) hx hb (show (Cond.arrayClass (newarray.typeOf .long)).before _ s = true from hts _ ka_long) rfl hK hP hS hZ.2.1 3 rfl (N' := 1) (fun _ => rfl) (nI_pos (n := 1) (by omega)) (nI_clamp (n := 1) (by omega)) (gk_bytes (Nat.le_trans (Nat.mul_le_mul_left _ (by decide : _ ≤ 8)) (by omega))) (Nat.le_of_ble_eq_true rfl) (by show _ + _ ≤ 7293034; omega) d_Law_law_17 (fun q13 H hq14 hP hS => ?_)
  obtain ⟨w15, ew15⟩ : ∃ z9 : hv_W, z9 = va_up w11 q13 (some (.inl (ca 3, 1, .inr (.inl (fun _ => 0))))) := ⟨_, rfl⟩
  have hP : hv_P D classes s.heap.size w15 H := by rw [ew15]; exact hP
  have h16 : w15 q13 = some (.inl (ca 3, 1, .inr (.inl (fun _ => 0)))) := by rw [ew15]; exact hv_up_s
  refine W.widen (k := 30) (n := 30318) (by omega) (by omega) ?_
  show W _ _ _ _ _ _ _ _ _ _ _ _ _ _ _ (F0 m 19 ls [.ref q13])
  refine lv_astore_n (lv' := [(3, .ref q13), (2, .ref (K 0)), (1, .ref (L 0)), (0, .ref b)]) hx hb d_Law_law_19 rfl hl (by decide) rfl (fun ls hl => ?_)
  refine lv_iconst (v := 0) hx hb d_Law_law_20 (by decide) ?_
  refine lv_istore (lv' := [(4, .int 0), (3, .ref q13), (2, .ref (K 0)), (1, .ref (L 0)), (0, .ref b)]) hx hb d_Law_law_21 hl (by decide) rfl (fun ls hl => ?_)
  have hc3 : cP ca L (va_up w11 q13 (some (.inl (ca 3, 1, .inr (.inl (fun _ => 0)))))) gS0 (va_up w11 q13 (some (.inl (ca 3, 1, .inr (.inl (fun _ => 0)))))) := by obtain ⟨P9, hM9, hR9⟩ := hc1; exact ⟨P9, ((hM9.grow hg13).new hq14).re, (hR9.k hg13.keep).new hq14⟩
  rw [← ew15] at hc3
  have hmo : ¬ mM K q13 := fun ⟨j, hj, z⟩ => by obtain ⟨A9, B9, hM9, -⟩ := id hS9; obtain ⟨e9, he9⟩ := hM9.cell hj; exact hv_ne_f hq14 he9 z.symm
  have hco : ¬ cM L q13 := fun ⟨i, hi, z⟩ => by obtain ⟨P9, hM9, -⟩ := id hc1; obtain ⟨e9, he9⟩ := hM9.cell hi; exact hv_ne_f hq14 (hg13 _ _ he9) z.symm
  have hm4 : ∃ t, mS ca K w15 t gS0 w15 := by obtain ⟨A9, B9, hM9, hR9, ht9⟩ := hS9; exact ⟨0, A9, B9, ⟨⟨hM9.1.1, fun i hi => by rw [ew15, hv_up_n (fun z => hmo ⟨i, hi, z.symm⟩)]; exact hM9.1.2 i hi⟩, fun _ _ => rfl⟩, hR9, ht9⟩
  have hI : lI ca L K q13 gS0 (fun _ => 0) w15 := ⟨gX_0, hc3, hm4, h16, hLK, hKL, hco, hmo⟩
  refine W.widen (k := 100 + 9 * 0) (n := 40000 + 69 * 0) (by omega) (by omega) ?_
  exact lw_loop F hend _ 0 (Nat.lt_succ_self _) (by omega) _ _ _ hI _ _ _ hP hS (lv_sub hl [4, 3, 2, 1, 0] rfl)
