abbrev rm_Model_checkpoint : Room := { frames := 2, cells := 0, slots := 0, locals := 41 }
set_option maxHeartbeats 4000000 in
set_option maxRecDepth 100000 in
theorem c_Model_checkpoint {l : Launch} {s0 : State} {D : va_G} {ca : Nat → ClassId} (C : hv_C l s0 D (hv_tys ca)) {w : hv_W} {K : Nat → Nat} {w0 : hv_W} {A : mA} {B : mB} {σ : gS} (hM : mK ca K w0 A B w) (hRel : mRel A B σ) (hW : gW σ)  :
    hv_Met l y_Model_checkpoint [.code y_Model_checkpoint b_Model_checkpoint 3 (some .int)] rm_Model_checkpoint (hv_Pc s0 D w [.ref (K 0)]) (hv_Q s0 D (fun v w' => mRet ca K w0 (x_checkpoint σ) v w') (fun _ _ => False)) 0 0 (hv_A s0.heap.size) := by
  refine hv_enter C _ (by decide) (Nat.le_of_ble_eq_true rfl) ?_
  intro p e s m below meth c ls Q hQ hx hb hr hml hown hts hK hZ hlocks hname hout htr hP hl
  have hown : s.vm.findClass R_Model = some m.cls := hown
  have hS : va_S (hv_A s0.heap.size) s.heap s.heap [] := va_S.rf
  have hl : lv_has ls 3 [(0, .ref (K 0))] := hl
  obtain ⟨t9, k9, p9, hA9⟩ := mAo_of hRel
  subst hA9
  have hb9 := hW.hb
  have htp9 := hW.tape
  have hdu9 : σ.due ≤ 2000 := hW.2.2.1.2.2.2
  have hen9 : σ.en ≤ 250 := hW.2.2.1.2.1
  have hlo9 : σ.lo ≤ 250 := hW.2.2.1.2.2.1
  refine lv_aload_n hx hb d_Model_checkpoint_0 rfl (lv_at hl 0 rfl) ?_
  refine lv_aload_n hx hb d_Model_checkpoint_1 rfl (lv_at hl 0 rfl) ?_
  have h1 : w (K 0) = some (.inr (7, [.int t9, .ref (K 1), .ref (K 2), .ref (K 3), .ref (K 4), .ref (K 5), .ref (K 6), .ref (K 7), .ref (K 8), .ref (K 9), .ref (K 10), .ref (K 11), .ref (K 12), .int (nI (σ.tape.length)), .ref (K 13), .int (σ.err), .int (σ.off), .int (σ.ins), .int (nI (σ.sc)), .int (nI (σ.ec)), .int (nI (σ.en)), .int (σ.tr), .int (nI (σ.lo)), .int (σ.wr), .int (nI (σ.due))])) := hM.1.2 0 (by decide)
  refine va_get (D := D) (ci := 7) (v := .int (σ.off)) (C := R_Model) (T := F_Model) (N := 25) hx hb hts i_Model hown hK (hv_one hP h1) 0 rfl rfl 16 (by decide) (hts _ k_Model_62) (fun _ h9 => h9) rfl d_Model_checkpoint_2 ?_
  refine lv_if_eq (tgt := 12) hx hb d_Model_checkpoint_5 (by decide) (fun c5 => ?_) (fun c5 => ?_)
  · refine lv_iconst (v := 0) hx hb d_Model_checkpoint_12 (by decide) ?_
    refine hv_put (D := D) (ci := 7) (v := .int 0) (ty := .int) (C := R_Model) (T := F_Model) (N := 25) hx hb hts i_Model t_Model t_Model_ok n_Model hown hK hP hS h1 rfl 0 (by decide) (hts _ k_Model_51) (fun _ h9 => h9) rfl (by decide +kernel) rfl rfl (Nat.le_of_ble_eq_true rfl) d_Model_checkpoint_13 (fun H locs hP hS => ?_)
    obtain ⟨w2, ew2⟩ : ∃ z9 : hv_W, z9 = va_up w (K 0) (some (.inr (7, [.int 0, .ref (K 1), .ref (K 2), .ref (K 3), .ref (K 4), .ref (K 5), .ref (K 6), .ref (K 7), .ref (K 8), .ref (K 9), .ref (K 10), .ref (K 11), .ref (K 12), .int (nI (σ.tape.length)), .ref (K 13), .int (σ.err), .int (σ.off), .int (σ.ins), .int (nI (σ.sc)), .int (nI (σ.ec)), .int (nI (σ.en)), .int (σ.tr), .int (nI (σ.lo)), .int (σ.wr), .int (nI (σ.due))]))) := ⟨_, rfl⟩
    have hP : hv_P D classes s0.heap.size w2 H := by rw [ew2]; exact hP
    have hM : mK ca K w0 ((mAo t9 k9 p9 σ).sThrown 0) B w2 := by rw [ew2]; exact hM.put 0 (by decide) rfl
    have h3 : w2 (K 0) = some (.inr (7, [.int 0, .ref (K 1), .ref (K 2), .ref (K 3), .ref (K 4), .ref (K 5), .ref (K 6), .ref (K 7), .ref (K 8), .ref (K 9), .ref (K 10), .ref (K 11), .ref (K 12), .int (nI (σ.tape.length)), .ref (K 13), .int (σ.err), .int (σ.off), .int (σ.ins), .int (nI (σ.sc)), .int (nI (σ.ec)), .int (nI (σ.en)), .int (σ.tr), .int (nI (σ.lo)), .int (σ.wr), .int (nI (σ.due))])) := by rw [ew2]; exact hv_up_s
    refine lv_aload_n hx hb d_Model_checkpoint_16 rfl (lv_at hl 0 rfl) ?_
    refine va_get (D := D) (ci := 7) (v := .int (σ.off)) (C := R_Model) (T := F_Model) (N := 25) hx hb hts i_Model hown hK (hv_one hP h3) 0 rfl rfl 16 (by decide) (hts _ k_Model_62) (fun _ h9 => h9) rfl d_Model_checkpoint_17 ?_
    refine lv_if_ne (tgt := 37) hx hb d_Model_checkpoint_20 (by decide) (fun c20 => ?_) (fun c20 => ?_)
    · exact absurd c5 c20
    · refine lv_aload_n hx hb d_Model_checkpoint_23 rfl (lv_at hl 0 rfl) ?_
      refine va_get (D := D) (ci := 7) (v := .int (σ.ins)) (C := R_Model) (T := F_Model) (N := 25) hx hb hts i_Model hown hK (hv_one hP h3) 0 rfl rfl 17 (by decide) (hts _ k_Model_81) (fun _ h9 => h9) rfl d_Model_checkpoint_24 ?_
      refine lv_if_ne (tgt := 37) hx hb d_Model_checkpoint_27 (by decide) (fun c27 => ?_) (fun c27 => ?_)
      · refine lv_aload_n hx hb d_Model_checkpoint_37 rfl (lv_at hl 0 rfl) ?_
        refine va_get (D := D) (ci := 7) (v := .int (σ.off)) (C := R_Model) (T := F_Model) (N := 25) hx hb hts i_Model hown hK (hv_one hP h3) 0 rfl rfl 16 (by decide) (hts _ k_Model_62) (fun _ h9 => h9) rfl d_Model_checkpoint_38 ?_
        refine lv_if_eq (tgt := 48) hx hb d_Model_checkpoint_41 (by decide) (fun c41 => ?_) (fun c41 => ?_)
        · refine lv_iconst (v := (-1)) hx hb d_Model_checkpoint_48 (by decide) ?_
          exact hv_iret (v := (-1)) hQ hx hb hr hZ hS hP hlocks d_Model_checkpoint_49 (mRet.of (r' := (σ, 0, (-1))) (by rw [x_checkpoint, cif_pos c5, cif_neg (fun z => c27 z.1)]) (fun _ => rfl) hM (hRel.thr 0) rfl)
        · exact absurd c5 c41
      · refine lv_aload_n hx hb d_Model_checkpoint_30 rfl (lv_at hl 0 rfl) ?_
        refine va_get (D := D) (ci := 7) (v := .int (nI (σ.sc))) (C := R_Model) (T := F_Model) (N := 25) hx hb hts i_Model hown hK (hv_one hP h3) 0 rfl rfl 18 (by decide) (hts _ k_Model_59) (fun _ h9 => h9) rfl d_Model_checkpoint_31 ?_
        refine gk_if_le (x := σ.sc) (tgt := 50) hx hb d_Model_checkpoint_34 (by decide) (by omega) (fun c34 => ?_) (fun c34 => ?_)
        · refine lv_aload_n hx hb d_Model_checkpoint_50 rfl (lv_at hl 0 rfl) ?_
          refine lv_iconst (v := 0) hx hb d_Model_checkpoint_51 (by decide) ?_
          refine lv_sipush (v := 160) hx hb d_Model_checkpoint_52 (by decide) ?_
          refine hv_call (hv_runV (As := [.int 0, .int 160]) (rest := []) (c_Model_count C (lo := 0) (n := 160) hM (by decide) hRel.1.1) (hv_cw C hZ kc_Model_count kn_Model ⟨rfl, rfl, Nat.le_of_ble_eq_true rfl, Nat.le_of_ble_eq_true rfl⟩) hv_blind (hv_pre hZ hS hP) hx hml hb hown (hts _ k_Model_158) (hts _ ki_Model_count) (hts _ ksel_Model_Model_count) hy_Model_count (hts _ kc_Model_count) (va_recv hK (hv_one hP h3) (ci := 7) (q0 := 0) rfl rfl) rfl hl.1 rfl (lv_room (Nat.le_of_ble_eq_true rfl)) d_Model_checkpoint_55 ⟨Nat.le_of_ble_eq_true rfl, Nat.le_of_ble_eq_true rfl⟩) hZ hS (fun v9 w4 H locs q5 hP hS => ?_) (fun x9 w4 H locs q5 hP hS => q5.elim)
          obtain ⟨hv9, hw9⟩ := q5
          subst hv9
          rw [hw9] at hP
          show W _ _ _ _ _ _ _ _ _ _ _ _ _ _ _ (F0 m 58 ls [.int (nI (x_cnt σ.now 0 160))])
          have hcn9 := x_cnt_le σ.now 0 160
          have hmn9 : x_cnt σ.now 0 160 + 1 = x_many σ := by unfold x_many; rw [show 160 = 64 + 96 from rfl, x_cnt_add σ.now 0 64 96, Nat.zero_add]
          refine lv_iconst (v := 1) hx hb d_Model_checkpoint_58 (by decide) ?_
          refine gk_iadd (x := x_cnt σ.now 0 160) (y := 1) hx hb d_Model_checkpoint_59 ?_
          refine lv_topi (fun v9 e9 => ?_)
          have e9 : v9 = nI (x_many σ) := e9.trans (congrArg nI hmn9)
          subst e9
          show W _ _ _ _ _ _ _ _ _ _ _ _ _ _ _ (F0 m 60 ls [.int (nI (x_many σ))])
          refine lv_istore_n (lv' := [(1, .int (nI (x_many σ))), (0, .ref (K 0))]) hx hb d_Model_checkpoint_60 rfl hl (by decide) rfl (fun ls hl => ?_)
          refine lv_iconst (v := 0) hx hb d_Model_checkpoint_61 (by decide) ?_
          refine lv_istore_n (lv' := [(2, .int 0), (1, .int (nI (x_many σ))), (0, .ref (K 0))]) hx hb d_Model_checkpoint_62 rfl hl (by decide) rfl (fun ls hl => ?_)
          have lp : ∀ (n9lp : Nat) (i : Nat) (A1 : mA) (z : hv_W), x_many σ - i < n9lp → (i ≤ x_many σ) → (mK ca K w0 A1 B z) → (mRel A1 B (s_wr2 σ i)) → (A1.thrown = 0) → (¬ s_cut σ i) → ∀ (H : Heap) (locs : List Loc) (ls : Array Slot), hv_P D classes s0.heap.size z H → va_S (hv_A s0.heap.size) s.heap H locs → lv_has ls 3 [(0, .ref (K 0)), (1, .int (nI (x_many σ))), (2, .int (nI i))] → W p l e rm_Model_checkpoint s m ([.ref (K 0)] : List Value).toArray below meth c H locs 0 0 Q (F0 m 63 ls []) := by
            intro n9lp
            induction n9lp with
            | zero =>
              intro i A1 z hn9lp
              exact absurd hn9lp (Nat.not_lt_zero _)
            | succ n9lp ihlp =>
              intro i A1 z hn9lp hi hM hR1 ht1 hnc H locs ls hP hS hl
              refine lv_iload_n hx hb d_Model_checkpoint_63 rfl (lv_at hl 2 rfl) ?_
              refine lv_iload_n hx hb d_Model_checkpoint_64 rfl (lv_at hl 1 rfl) ?_
              refine gk_icmp_ge (x := i) (y := x_many σ) (tgt := 88) hx hb d_Model_checkpoint_65 (by decide) (by omega) (by omega) (fun c65 => ?_) (fun c65 => ?_)
              · refine lv_aload_n hx hb d_Model_checkpoint_88 rfl (lv_at hl 0 rfl) ?_
                refine lv_iconst (v := 0) hx hb d_Model_checkpoint_89 (by decide) ?_
                have h6 : z (K 0) = some (.inr (7, [.int A1.thrown, .ref (K 1), .ref (K 2), .ref (K 3), .ref (K 4), .ref (K 5), .ref (K 6), .ref (K 7), .ref (K 8), .ref (K 9), .ref (K 10), .ref (K 11), .ref (K 12), .int (nI A1.tapeSize), .ref (K 13), .int A1.error, .int A1.off, .int A1.inside, .int (nI A1.changes), .int (nI A1.earlier), .int (nI A1.logged), .int A1.over, .int (nI A1.loose), .int A1.written, .int (nI A1.due)])) := hM.1.2 0 (by decide)
                refine hv_put (D := D) (ci := 7) (v := .int 0) (ty := .int) (C := R_Model) (T := F_Model) (N := 25) hx hb hts i_Model t_Model t_Model_ok n_Model hown hK hP hS h6 rfl 20 (by decide) (hts _ k_Model_97) (fun _ h9 => h9) rfl (by decide +kernel) rfl rfl (Nat.le_of_ble_eq_true rfl) d_Model_checkpoint_90 (fun H locs hP hS => ?_)
                obtain ⟨w7, ew7⟩ : ∃ z9 : hv_W, z9 = va_up z (K 0) (some (.inr (7, [.int A1.thrown, .ref (K 1), .ref (K 2), .ref (K 3), .ref (K 4), .ref (K 5), .ref (K 6), .ref (K 7), .ref (K 8), .ref (K 9), .ref (K 10), .ref (K 11), .ref (K 12), .int (nI A1.tapeSize), .ref (K 13), .int A1.error, .int A1.off, .int A1.inside, .int (nI A1.changes), .int (nI A1.earlier), .int 0, .int A1.over, .int (nI A1.loose), .int A1.written, .int (nI A1.due)]))) := ⟨_, rfl⟩
                have hP : hv_P D classes s0.heap.size w7 H := by rw [ew7]; exact hP
                have hM : mK ca K w0 (A1.sLogged 0) B w7 := by rw [ew7]; exact hM.put 0 (by decide) rfl
                have h8 : w7 (K 0) = some (.inr (7, [.int A1.thrown, .ref (K 1), .ref (K 2), .ref (K 3), .ref (K 4), .ref (K 5), .ref (K 6), .ref (K 7), .ref (K 8), .ref (K 9), .ref (K 10), .ref (K 11), .ref (K 12), .int (nI A1.tapeSize), .ref (K 13), .int A1.error, .int A1.off, .int A1.inside, .int (nI A1.changes), .int (nI A1.earlier), .int 0, .int A1.over, .int (nI A1.loose), .int A1.written, .int (nI A1.due)])) := by rw [ew7]; exact hv_up_s
                refine lv_aload_n hx hb d_Model_checkpoint_93 rfl (lv_at hl 0 rfl) ?_
                refine lv_iconst (v := 0) hx hb d_Model_checkpoint_94 (by decide) ?_
                refine hv_put (D := D) (ci := 7) (v := .int 0) (ty := .int) (C := R_Model) (T := F_Model) (N := 25) hx hb hts i_Model t_Model t_Model_ok n_Model hown hK hP hS h8 rfl 21 (by decide) (hts _ k_Model_100) (fun _ h9 => h9) rfl (by decide +kernel) rfl rfl (Nat.le_of_ble_eq_true rfl) d_Model_checkpoint_95 (fun H locs hP hS => ?_)
                obtain ⟨w9, ew9⟩ : ∃ z9 : hv_W, z9 = va_up w7 (K 0) (some (.inr (7, [.int A1.thrown, .ref (K 1), .ref (K 2), .ref (K 3), .ref (K 4), .ref (K 5), .ref (K 6), .ref (K 7), .ref (K 8), .ref (K 9), .ref (K 10), .ref (K 11), .ref (K 12), .int (nI A1.tapeSize), .ref (K 13), .int A1.error, .int A1.off, .int A1.inside, .int (nI A1.changes), .int (nI A1.earlier), .int 0, .int 0, .int (nI A1.loose), .int A1.written, .int (nI A1.due)]))) := ⟨_, rfl⟩
                have hP : hv_P D classes s0.heap.size w9 H := by rw [ew9]; exact hP
                have hM : mK ca K w0 ((A1.sLogged 0).sOver 0) B w9 := by rw [ew9]; exact hM.put 0 (by decide) rfl
                have h10 : w9 (K 0) = some (.inr (7, [.int A1.thrown, .ref (K 1), .ref (K 2), .ref (K 3), .ref (K 4), .ref (K 5), .ref (K 6), .ref (K 7), .ref (K 8), .ref (K 9), .ref (K 10), .ref (K 11), .ref (K 12), .int (nI A1.tapeSize), .ref (K 13), .int A1.error, .int A1.off, .int A1.inside, .int (nI A1.changes), .int (nI A1.earlier), .int 0, .int 0, .int (nI A1.loose), .int A1.written, .int (nI A1.due)])) := by rw [ew9]; exact hv_up_s
                refine lv_iload_n hx hb d_Model_checkpoint_98 rfl (lv_at hl 1 rfl) ?_
                have hik : i = x_many σ := by omega
                exact hv_iret (v := nI (x_many σ)) hQ hx hb hr hZ hS hP hlocks d_Model_checkpoint_99 (mRet.of (r' := (((s_wrO σ (x_many σ)).sEn 0).sTr 0, 0, nI (x_many σ))) (by rw [x_checkpoint, cif_pos c5, cif_pos ⟨c27, c34⟩, cif_neg (by rw [← hik]; exact hnc)]) (fun _ => rfl) hM (by rw [hik] at hR1; exact (hR1.en 0).tr 0) ht1)
              · refine lv_aload_n hx hb d_Model_checkpoint_68 rfl (lv_at hl 0 rfl) ?_
                have h11 : z (K 0) = some (.inr (7, [.int A1.thrown, .ref (K 1), .ref (K 2), .ref (K 3), .ref (K 4), .ref (K 5), .ref (K 6), .ref (K 7), .ref (K 8), .ref (K 9), .ref (K 10), .ref (K 11), .ref (K 12), .int (nI A1.tapeSize), .ref (K 13), .int A1.error, .int A1.off, .int A1.inside, .int (nI A1.changes), .int (nI A1.earlier), .int (nI A1.logged), .int A1.over, .int (nI A1.loose), .int A1.written, .int (nI A1.due)])) := hM.1.2 0 (by decide)
                refine hv_call (hv_runV (As := []) (rest := []) (c_Model_write C hM hR1 (show σ.due - i ≤ 2000 by omega) hW.1.2.2) (hv_cw C hZ kc_Model_write kn_Model ⟨rfl, rfl, Nat.le_of_ble_eq_true rfl, Nat.le_of_ble_eq_true rfl⟩) hv_blind (hv_pre hZ hS hP) hx hml hb hown (hts _ k_Model_90) (hts _ ki_Model_write) (hts _ ksel_Model_Model_write) hy_Model_write (hts _ kc_Model_write) (va_recv hK (hv_one hP h11) (ci := 7) (q0 := 0) rfl rfl) rfl hl.1 rfl (lv_room (Nat.le_of_ble_eq_true rfl)) d_Model_checkpoint_69 ⟨Nat.le_of_ble_eq_true rfl, Nat.le_of_ble_eq_true rfl⟩) hZ hS (fun v9 w12 H locs q13 hP hS => ?_) (fun x9 w12 H locs q13 hP hS => q13.elim)
                rcases q13 with ⟨hd1, hv9, hS9⟩ | ⟨hd1, hv9, A2, hM, hR2, ht8⟩
                · subst hv9
                  have hdi : σ.due - i = 1 := hd1
                  have hdu : σ.due = i + 1 := by omega
                  rw [s_wr2_fail hdu] at hS9
                  obtain ⟨A2, B2, hM, hR2, ht2⟩ := hS9
                  show W _ _ _ _ _ _ _ _ _ _ _ _ _ _ _ (F0 m 72 ls [.int 0])
                  refine lv_if_ne (tgt := 82) hx hb d_Model_checkpoint_72 (by decide) (fun c72 => ?_) (fun c72 => ?_)
                  · exact absurd c72 (by decide)
                  · refine lv_aload_n hx hb d_Model_checkpoint_75 rfl (lv_at hl 0 rfl) ?_
                    refine lv_iconst (v := 1) hx hb d_Model_checkpoint_76 (by decide) ?_
                    have h14 : w12 (K 0) = some (.inr (7, [.int A2.thrown, .ref (K 1), .ref (K 2), .ref (K 3), .ref (K 4), .ref (K 5), .ref (K 6), .ref (K 7), .ref (K 8), .ref (K 9), .ref (K 10), .ref (K 11), .ref (K 12), .int (nI A2.tapeSize), .ref (K 13), .int A2.error, .int A2.off, .int A2.inside, .int (nI A2.changes), .int (nI A2.earlier), .int (nI A2.logged), .int A2.over, .int (nI A2.loose), .int A2.written, .int (nI A2.due)])) := hM.1.2 0 (by decide)
                    refine hv_put (D := D) (ci := 7) (v := .int 1) (ty := .int) (C := R_Model) (T := F_Model) (N := 25) hx hb hts i_Model t_Model t_Model_ok n_Model hown hK hP hS h14 rfl 0 (by decide) (hts _ k_Model_51) (fun _ h9 => h9) rfl (by decide +kernel) rfl rfl (Nat.le_of_ble_eq_true rfl) d_Model_checkpoint_77 (fun H locs hP hS => ?_)
                    obtain ⟨w15, ew15⟩ : ∃ z9 : hv_W, z9 = va_up w12 (K 0) (some (.inr (7, [.int 1, .ref (K 1), .ref (K 2), .ref (K 3), .ref (K 4), .ref (K 5), .ref (K 6), .ref (K 7), .ref (K 8), .ref (K 9), .ref (K 10), .ref (K 11), .ref (K 12), .int (nI A2.tapeSize), .ref (K 13), .int A2.error, .int A2.off, .int A2.inside, .int (nI A2.changes), .int (nI A2.earlier), .int (nI A2.logged), .int A2.over, .int (nI A2.loose), .int A2.written, .int (nI A2.due)]))) := ⟨_, rfl⟩
                    have hP : hv_P D classes s0.heap.size w15 H := by rw [ew15]; exact hP
                    have hM : mK ca K w0 (A2.sThrown 1) B2 w15 := by rw [ew15]; exact hM.put 0 (by decide) rfl
                    have h16 : w15 (K 0) = some (.inr (7, [.int 1, .ref (K 1), .ref (K 2), .ref (K 3), .ref (K 4), .ref (K 5), .ref (K 6), .ref (K 7), .ref (K 8), .ref (K 9), .ref (K 10), .ref (K 11), .ref (K 12), .int (nI A2.tapeSize), .ref (K 13), .int A2.error, .int A2.off, .int A2.inside, .int (nI A2.changes), .int (nI A2.earlier), .int (nI A2.logged), .int A2.over, .int (nI A2.loose), .int A2.written, .int (nI A2.due)])) := by rw [ew15]; exact hv_up_s
                    refine lv_iconst (v := 0) hx hb d_Model_checkpoint_80 (by decide) ?_
                    exact hv_iret (v := 0) hQ hx hb hr hZ hS hP hlocks d_Model_checkpoint_81 (mRet.of (r' := (s_off (s_wrF σ), 1, 0)) (by rw [x_checkpoint, cif_pos c5, cif_pos ⟨c27, c34⟩, cif_pos ⟨by omega, by omega⟩]) (fun z9 => absurd z9 (show ¬ (1 : Nat) = 0 by decide)) hM (hR2.thr 1) rfl)
                · subst hv9
                  have hnd : ¬ σ.due - i = 1 := hd1
                  rw [s_wr2_next] at hR2
                  obtain ⟨t8, k8, p8, hA8⟩ := mAo_of hR2
                  subst hA8
                  have ht2 : t8 = 0 := ht8.trans ht1
                  show W _ _ _ _ _ _ _ _ _ _ _ _ _ _ _ (F0 m 72 ls [.int 1])
                  refine lv_if_ne (tgt := 82) hx hb d_Model_checkpoint_72 (by decide) (fun c72 => ?_) (fun c72 => ?_)
                  · refine lv_iinc (v := (nI (i + 1))) (lv' := [(2, .int ((nI (i + 1)))), (0, .ref (K 0)), (1, .int (nI (x_many σ)))]) hx hb d_Model_checkpoint_82 hl (k := 2) rfl (nI_add i 1) (by decide) rfl (fun ls hl => ?_)
                    refine lv_goto (tgt := 63) hx hb d_Model_checkpoint_85 (by decide) ?_
                    exact ihlp (i + 1) ((mAo t8 k8 p8 (s_wr2 σ (i + 1)))) w12 (by omega) (by omega) hM hR2 ht2 (fun z => (Nat.lt_or_ge i σ.due).elim (fun y => hnd (by have z2 := z.2; omega)) (fun y => hnc ⟨z.1, y⟩)) _ _ _ hP hS (lv_sub hl [1, 2, 0] rfl)
                  · exact absurd c72 (by decide)
          exact lp _ 0 (((mAo t9 k9 p9 σ).sThrown 0)) w2 (Nat.lt_succ_self _) (Nat.zero_le _) hM (by rw [s_wr2_0]; exact hRel.thr 0) rfl (fun z => by have z1 := z.1; have z2 := z.2; omega) _ _ _ hP hS (lv_sub hl [2, 1, 0] rfl)
        · refine lv_aload_n hx hb d_Model_checkpoint_37 rfl (lv_at hl 0 rfl) ?_
          refine va_get (D := D) (ci := 7) (v := .int (σ.off)) (C := R_Model) (T := F_Model) (N := 25) hx hb hts i_Model hown hK (hv_one hP h3) 0 rfl rfl 16 (by decide) (hts _ k_Model_62) (fun _ h9 => h9) rfl d_Model_checkpoint_38 ?_
          refine lv_if_eq (tgt := 48) hx hb d_Model_checkpoint_41 (by decide) (fun c41 => ?_) (fun c41 => ?_)
          · refine lv_iconst (v := (-1)) hx hb d_Model_checkpoint_48 (by decide) ?_
            exact hv_iret (v := (-1)) hQ hx hb hr hZ hS hP hlocks d_Model_checkpoint_49 (mRet.of (r' := (σ, 0, (-1))) (by rw [x_checkpoint, cif_pos c5, cif_neg (fun z => c34 z.2)]) (fun _ => rfl) hM (hRel.thr 0) rfl)
          · exact absurd c5 c41
  · refine lv_iconst (v := 1) hx hb d_Model_checkpoint_8 (by decide) ?_
    refine lv_goto (tgt := 13) hx hb d_Model_checkpoint_9 (by decide) ?_
    refine hv_put (D := D) (ci := 7) (v := .int 1) (ty := .int) (C := R_Model) (T := F_Model) (N := 25) hx hb hts i_Model t_Model t_Model_ok n_Model hown hK hP hS h1 rfl 0 (by decide) (hts _ k_Model_51) (fun _ h9 => h9) rfl (by decide +kernel) rfl rfl (Nat.le_of_ble_eq_true rfl) d_Model_checkpoint_13 (fun H locs hP hS => ?_)
    obtain ⟨w17, ew17⟩ : ∃ z9 : hv_W, z9 = va_up w (K 0) (some (.inr (7, [.int 1, .ref (K 1), .ref (K 2), .ref (K 3), .ref (K 4), .ref (K 5), .ref (K 6), .ref (K 7), .ref (K 8), .ref (K 9), .ref (K 10), .ref (K 11), .ref (K 12), .int (nI (σ.tape.length)), .ref (K 13), .int (σ.err), .int (σ.off), .int (σ.ins), .int (nI (σ.sc)), .int (nI (σ.ec)), .int (nI (σ.en)), .int (σ.tr), .int (nI (σ.lo)), .int (σ.wr), .int (nI (σ.due))]))) := ⟨_, rfl⟩
    have hP : hv_P D classes s0.heap.size w17 H := by rw [ew17]; exact hP
    have hM : mK ca K w0 ((mAo t9 k9 p9 σ).sThrown 1) B w17 := by rw [ew17]; exact hM.put 0 (by decide) rfl
    have h18 : w17 (K 0) = some (.inr (7, [.int 1, .ref (K 1), .ref (K 2), .ref (K 3), .ref (K 4), .ref (K 5), .ref (K 6), .ref (K 7), .ref (K 8), .ref (K 9), .ref (K 10), .ref (K 11), .ref (K 12), .int (nI (σ.tape.length)), .ref (K 13), .int (σ.err), .int (σ.off), .int (σ.ins), .int (nI (σ.sc)), .int (nI (σ.ec)), .int (nI (σ.en)), .int (σ.tr), .int (nI (σ.lo)), .int (σ.wr), .int (nI (σ.due))])) := by rw [ew17]; exact hv_up_s
    refine lv_aload_n hx hb d_Model_checkpoint_16 rfl (lv_at hl 0 rfl) ?_
    refine va_get (D := D) (ci := 7) (v := .int (σ.off)) (C := R_Model) (T := F_Model) (N := 25) hx hb hts i_Model hown hK (hv_one hP h18) 0 rfl rfl 16 (by decide) (hts _ k_Model_62) (fun _ h9 => h9) rfl d_Model_checkpoint_17 ?_
    refine lv_if_ne (tgt := 37) hx hb d_Model_checkpoint_20 (by decide) (fun c20 => ?_) (fun c20 => ?_)
    · refine lv_aload_n hx hb d_Model_checkpoint_37 rfl (lv_at hl 0 rfl) ?_
      refine va_get (D := D) (ci := 7) (v := .int (σ.off)) (C := R_Model) (T := F_Model) (N := 25) hx hb hts i_Model hown hK (hv_one hP h18) 0 rfl rfl 16 (by decide) (hts _ k_Model_62) (fun _ h9 => h9) rfl d_Model_checkpoint_38 ?_
      refine lv_if_eq (tgt := 48) hx hb d_Model_checkpoint_41 (by decide) (fun c41 => ?_) (fun c41 => ?_)
      · exact absurd c41 c5
      · refine lv_iconst (v := 0) hx hb d_Model_checkpoint_44 (by decide) ?_
        refine lv_goto (tgt := 49) hx hb d_Model_checkpoint_45 (by decide) ?_
        exact hv_iret (v := 0) hQ hx hb hr hZ hS hP hlocks d_Model_checkpoint_49 (mRet.of (r' := (σ, 1, 0)) (by rw [x_checkpoint, cif_neg c5]) (fun z9 => absurd z9 (show ¬ (1 : Nat) = 0 by decide)) hM (hRel.thr 1) rfl)
    · exact absurd c20 c5

abbrev rm_Model_thing : Room := { frames := 1, cells := 0, slots := 0, locals := 24 }
set_option maxHeartbeats 4000000 in
set_option maxRecDepth 100000 in
theorem c_Model_thing {l : Launch} {s0 : State} {D : va_G} {ca : Nat → ClassId} (C : hv_C l s0 D (hv_tys ca)) {w : hv_W} {K : Nat → Nat} {w0 : hv_W} {A : mA} {B : mB} {σ : gS} (k n wh : Int32) (hM : mK ca K w0 A B w) (hRel : mRel A B σ) (hW : gW σ)  :
    hv_Met l y_Model_thing [.code y_Model_thing b_Model_thing 5 (some .int)] rm_Model_thing (hv_Pc s0 D w [.ref (K 0), .int k, .int n, .int wh]) (hv_Q s0 D (fun v w' => v = some (.int (x_thing σ k n wh)) ∧ mS ca K w0 0 σ w') (fun _ _ => False)) 0 0 (hv_A s0.heap.size) := by
  refine hv_enter C _ (by decide) (Nat.le_of_ble_eq_true rfl) ?_
  intro p e s m below meth c ls Q hQ hx hb hr hml hown hts hK hZ hlocks hname hout htr hP hl
  have hown : s.vm.findClass R_Model = some m.cls := hown
  have hS : va_S (hv_A s0.heap.size) s.heap s.heap [] := va_S.rf
  have hl : lv_has ls 5 [(0, .ref (K 0)), (1, .int k), (2, .int n), (3, .int wh)] := hl
  obtain ⟨t9, k9, p9, hA9⟩ := mAo_of hRel
  subst hA9
  have hb9 := hW.hb
  have htp9 := hW.tape
  have hdu9 : σ.due ≤ 2000 := hW.2.2.1.2.2.2
  have hen9 : σ.en ≤ 250 := hW.2.2.1.2.1
  have hlo9 : σ.lo ≤ 250 := hW.2.2.1.2.2.1
  refine lv_aload_n hx hb d_Model_thing_0 rfl (lv_at hl 0 rfl) ?_
  refine lv_iconst (v := 0) hx hb d_Model_thing_1 (by decide) ?_
  have h1 : w (K 0) = some (.inr (7, [.int t9, .ref (K 1), .ref (K 2), .ref (K 3), .ref (K 4), .ref (K 5), .ref (K 6), .ref (K 7), .ref (K 8), .ref (K 9), .ref (K 10), .ref (K 11), .ref (K 12), .int (nI (σ.tape.length)), .ref (K 13), .int (σ.err), .int (σ.off), .int (σ.ins), .int (nI (σ.sc)), .int (nI (σ.ec)), .int (nI (σ.en)), .int (σ.tr), .int (nI (σ.lo)), .int (σ.wr), .int (nI (σ.due))])) := hM.1.2 0 (by decide)
  refine hv_put (D := D) (ci := 7) (v := .int 0) (ty := .int) (C := R_Model) (T := F_Model) (N := 25) hx hb hts i_Model t_Model t_Model_ok n_Model hown hK hP hS h1 rfl 0 (by decide) (hts _ k_Model_51) (fun _ h9 => h9) rfl (by decide +kernel) rfl rfl (Nat.le_of_ble_eq_true rfl) d_Model_thing_2 (fun H locs hP hS => ?_)
  obtain ⟨w2, ew2⟩ : ∃ z9 : hv_W, z9 = va_up w (K 0) (some (.inr (7, [.int 0, .ref (K 1), .ref (K 2), .ref (K 3), .ref (K 4), .ref (K 5), .ref (K 6), .ref (K 7), .ref (K 8), .ref (K 9), .ref (K 10), .ref (K 11), .ref (K 12), .int (nI (σ.tape.length)), .ref (K 13), .int (σ.err), .int (σ.off), .int (σ.ins), .int (nI (σ.sc)), .int (nI (σ.ec)), .int (nI (σ.en)), .int (σ.tr), .int (nI (σ.lo)), .int (σ.wr), .int (nI (σ.due))]))) := ⟨_, rfl⟩
  have hP : hv_P D classes s0.heap.size w2 H := by rw [ew2]; exact hP
  have hM : mK ca K w0 ((mAo t9 k9 p9 σ).sThrown 0) B w2 := by rw [ew2]; exact hM.put 0 (by decide) rfl
  have h3 : w2 (K 0) = some (.inr (7, [.int 0, .ref (K 1), .ref (K 2), .ref (K 3), .ref (K 4), .ref (K 5), .ref (K 6), .ref (K 7), .ref (K 8), .ref (K 9), .ref (K 10), .ref (K 11), .ref (K 12), .int (nI (σ.tape.length)), .ref (K 13), .int (σ.err), .int (σ.off), .int (σ.ins), .int (nI (σ.sc)), .int (nI (σ.ec)), .int (nI (σ.en)), .int (σ.tr), .int (nI (σ.lo)), .int (σ.wr), .int (nI (σ.due))])) := by rw [ew2]; exact hv_up_s
  refine lv_aload_n hx hb d_Model_thing_5 rfl (lv_at hl 0 rfl) ?_
  refine lv_iload_n hx hb d_Model_thing_6 rfl (lv_at hl 1 rfl) ?_
  refine lv_iload_n hx hb d_Model_thing_7 rfl (lv_at hl 2 rfl) ?_
  refine hv_call (hv_runV (As := [.int k, .int n]) (rest := []) (c_Model_find C k n hM) (hv_cw C hZ kc_Model_find kn_Model ⟨rfl, rfl, Nat.le_of_ble_eq_true rfl, Nat.le_of_ble_eq_true rfl⟩) hv_blind (hv_pre hZ hS hP) hx hml hb hown (hts _ k_Model_123) (hts _ ki_Model_find) (hts _ ksel_Model_Model_find) hy_Model_find (hts _ kc_Model_find) (va_recv hK (hv_one hP h3) (ci := 7) (q0 := 0) rfl rfl) rfl hl.1 rfl (lv_room (Nat.le_of_ble_eq_true rfl)) d_Model_thing_8 ⟨Nat.le_of_ble_eq_true rfl, Nat.le_of_ble_eq_true rfl⟩) hZ hS (fun v9 w4 H locs q5 hP hS => ?_) (fun x9 w4 H locs q5 hP hS => q5.elim)
  obtain ⟨hv9, hw9⟩ := q5
  subst hv9
  rw [hw9] at hP
  show W _ _ _ _ _ _ _ _ _ _ _ _ _ _ _ (F0 m 11 ls [.int (m_find B k n)])
  rw [m_find_eq hRel.1.1]
  cases hf : x_find σ.now k n with
  | none =>
    rw [m_find2_n hf]
    show W _ _ _ _ _ _ _ _ _ _ _ _ _ _ _ (F0 m 11 ls [.int ((-1))])
    refine lv_istore (lv' := [(4, .int ((-1))), (0, .ref (K 0)), (1, .int k), (2, .int n), (3, .int wh)]) hx hb d_Model_thing_11 hl (by decide) rfl (fun ls hl => ?_)
    refine lv_iload hx hb d_Model_thing_13 (lv_at hl 0 rfl) ?_
    refine lv_if_lt (tgt := 27) hx hb d_Model_thing_15 (by decide) (fun c15 => ?_) (fun c15 => ?_)
    · refine lv_iconst (v := (-1)) hx hb d_Model_thing_27 (by decide) ?_
      exact hv_iret (v := (-1)) hQ hx hb hr hZ hS hP hlocks d_Model_thing_28 (⟨by rw [x_thing, hf], _, _, hM, hRel.thr 0, rfl⟩)
    · exact absurd c15 (by decide)
  | some it =>
    obtain ⟨i, t⟩ := it
    rw [m_find2_s hf]
    have hi : i < 160 := x_find_lt hf
    have ht : σ.now i = some t := (x_find_some hf).1
    have hw := hW.t hi ht
    show W _ _ _ _ _ _ _ _ _ _ _ _ _ _ _ (F0 m 11 ls [.int (nI i)])
    have hat9 := hRel.at hi ht
    have hx9 := (x_find_some hf).2
    refine lv_istore (lv' := [(4, .int (nI i)), (0, .ref (K 0)), (1, .int k), (2, .int n), (3, .int wh)]) hx hb d_Model_thing_11 hl (by decide) rfl (fun ls hl => ?_)
    refine lv_iload hx hb d_Model_thing_13 (lv_at hl 0 rfl) ?_
    refine gk_if_lt (x := i) (tgt := 27) hx hb d_Model_thing_15 (by decide) (by omega) ?_
    refine lv_iload_n hx hb d_Model_thing_18 rfl (lv_at hl 4 rfl) ?_
    refine lv_if_lt (tgt := 27) hx hb d_Model_thing_19 (by decide) (fun c19 => ?_) (fun c19 => ?_)
    · refine lv_iconst (v := (-1)) hx hb d_Model_thing_27 (by decide) ?_
      exact hv_iret (v := (-1)) hQ hx hb hr hZ hS hP hlocks d_Model_thing_28 (⟨by rw [x_thing, hf]; dsimp only; rw [x_nl_lo c19], _, _, hM, hRel.thr 0, rfl⟩)
    · refine lv_iload_n hx hb d_Model_thing_22 rfl (lv_at hl 4 rfl) ?_
      refine lv_iconst (v := 3) hx hb d_Model_thing_23 (by decide) ?_
      refine lv_icmp_le (tgt := 29) hx hb d_Model_thing_24 (by decide) (fun c24 => ?_) (fun c24 => ?_)
      · refine lv_iload_n hx hb d_Model_thing_29 rfl (lv_at hl 4 rfl) ?_
        refine lv_if_ne (tgt := 41) hx hb d_Model_thing_30 (by decide) (fun c30 => ?_) (fun c30 => ?_)
        · refine lv_iload_n hx hb d_Model_thing_41 rfl (lv_at hl 2 rfl) ?_
          refine lv_iconst (v := 4) hx hb d_Model_thing_42 (by decide) ?_
          refine lv_icmp_ne (tgt := 77) hx hb d_Model_thing_43 (by decide) (fun c43 => ?_) (fun c43 => ?_)
          · refine lv_iload_n hx hb d_Model_thing_77 rfl (lv_at hl 4 rfl) ?_
            refine lv_iconst (v := 1) hx hb d_Model_thing_78 (by decide) ?_
            refine lv_icmp_ne (tgt := 92) hx hb d_Model_thing_79 (by decide) (fun c79 => ?_) (fun c79 => ?_)
            · refine lv_iload_n hx hb d_Model_thing_92 rfl (lv_at hl 4 rfl) ?_
              refine lv_iconst (v := 2) hx hb d_Model_thing_93 (by decide) ?_
              refine lv_icmp_ne (tgt := 107) hx hb d_Model_thing_94 (by decide) (fun c94 => ?_) (fun c94 => ?_)
              · refine lv_aload_n hx hb d_Model_thing_107 rfl (lv_at hl 1 rfl) ?_
                refine va_get (D := D) (ci := 7) (v := .ref (K 4)) (C := R_Model) (T := F_Model) (N := 25) hx hb hts i_Model hown hK (hv_one hP h3) 0 rfl rfl 4 (by decide) (hts _ k_Model_20) (fun _ h9 => h9) rfl d_Model_thing_108 ?_
                refine lv_iload hx hb d_Model_thing_111 (lv_at hl 0 rfl) ?_
                have h6 : w2 (K 4) = some (.inl (ca 0, 640, .inl B.types)) := hM.1.2 4 (by decide)
                refine va_iald hx hb hK (hv_one hP h6) 0 0 rfl rfl (vp_in_nI (n := i) (by omega) (by omega)) d_Model_thing_113 ?_
                rw [nI_clamp (n := i) (by omega)]
                exact hv_iret (v := B.types i) hQ hx hb hr hZ hS hP hlocks d_Model_thing_114 (⟨by rw [x_thing, hf]; dsimp only; rw [if_neg c30, if_neg c43, x_lf, if_neg c79, if_neg c94, if_pos (x_w3 c19 c24 c30 c79 c94), (hat9.2.2.2 (hx9.elim (fun z => absurd z.1 c43) (fun z => by have := z.2.1; omega))).2.2], _, _, hM, hRel.thr 0, rfl⟩)
              · refine lv_aload_n hx hb d_Model_thing_97 rfl (lv_at hl 1 rfl) ?_
                refine va_get (D := D) (ci := 7) (v := .ref (K 3)) (C := R_Model) (T := F_Model) (N := 25) hx hb hts i_Model hown hK (hv_one hP h3) 0 rfl rfl 3 (by decide) (hts _ k_Model_17) (fun _ h9 => h9) rfl d_Model_thing_98 ?_
                refine lv_iload hx hb d_Model_thing_101 (lv_at hl 0 rfl) ?_
                have h7 : w2 (K 3) = some (.inl (ca 0, 640, .inl B.ends)) := hM.1.2 3 (by decide)
                refine va_iald hx hb hK (hv_one hP h7) 0 0 rfl rfl (vp_in_nI (n := i) (by omega) (by omega)) d_Model_thing_103 ?_
                rw [nI_clamp (n := i) (by omega)]
                refine lv_goto (tgt := 114) hx hb d_Model_thing_104 (by decide) ?_
                exact hv_iret (v := B.ends i) hQ hx hb hr hZ hS hP hlocks d_Model_thing_114 (⟨by rw [x_thing, hf]; dsimp only; rw [if_neg c30, if_neg c43, x_lf, if_neg c79, if_pos c94, (hat9.2.2.2 (hx9.elim (fun z => absurd z.1 c43) (fun z => by have := z.2.1; omega))).2.1], _, _, hM, hRel.thr 0, rfl⟩)
            · refine lv_aload_n hx hb d_Model_thing_82 rfl (lv_at hl 1 rfl) ?_
              refine va_get (D := D) (ci := 7) (v := .ref (K 2)) (C := R_Model) (T := F_Model) (N := 25) hx hb hts i_Model hown hK (hv_one hP h3) 0 rfl rfl 2 (by decide) (hts _ k_Model_13) (fun _ h9 => h9) rfl d_Model_thing_83 ?_
              refine lv_iload hx hb d_Model_thing_86 (lv_at hl 0 rfl) ?_
              have h8 : w2 (K 2) = some (.inl (ca 0, 640, .inl B.starts)) := hM.1.2 2 (by decide)
              refine va_iald hx hb hK (hv_one hP h8) 0 0 rfl rfl (vp_in_nI (n := i) (by omega) (by omega)) d_Model_thing_88 ?_
              rw [nI_clamp (n := i) (by omega)]
              refine lv_goto (tgt := 114) hx hb d_Model_thing_89 (by decide) ?_
              exact hv_iret (v := B.starts i) hQ hx hb hr hZ hS hP hlocks d_Model_thing_114 (⟨by rw [x_thing, hf]; dsimp only; rw [if_neg c30, if_neg c43, x_lf, if_pos c79, (hat9.2.2.2 (hx9.elim (fun z => absurd z.1 c43) (fun z => by have := z.2.1; omega))).1], _, _, hM, hRel.thr 0, rfl⟩)
          · refine lv_iload_n hx hb d_Model_thing_46 rfl (lv_at hl 4 rfl) ?_
            refine lv_iconst (v := 1) hx hb d_Model_thing_47 (by decide) ?_
            refine lv_icmp_ne (tgt := 61) hx hb d_Model_thing_48 (by decide) (fun c48 => ?_) (fun c48 => ?_)
            · refine lv_aload_n hx hb d_Model_thing_61 rfl (lv_at hl 1 rfl) ?_
              refine lv_iload_n hx hb d_Model_thing_62 rfl (lv_at hl 3 rfl) ?_
              refine lv_iload_n hx hb d_Model_thing_63 rfl (lv_at hl 4 rfl) ?_
              refine lv_iconst (v := 2) hx hb d_Model_thing_64 (by decide) ?_
              refine lv_icmp_ne (tgt := 72) hx hb d_Model_thing_65 (by decide) (fun c65 => ?_) (fun c65 => ?_)
              · refine lv_iconst (v := 0) hx hb d_Model_thing_72 (by decide) ?_
                refine hv_call (hv_runV (As := [.int n, .int 0]) (rest := []) (c_Model_links C n 0 hM hRel.1.1) (hv_cw C hZ kc_Model_links kn_Model ⟨rfl, rfl, Nat.le_of_ble_eq_true rfl, Nat.le_of_ble_eq_true rfl⟩) hv_blind (hv_pre hZ hS hP) hx hml hb hown (hts _ k_Model_144) (hts _ ki_Model_links) (hts _ ksel_Model_Model_links) hy_Model_links (hts _ kc_Model_links) (va_recv hK (hv_one hP h3) (ci := 7) (q0 := 0) rfl rfl) rfl hl.1 rfl (lv_room (Nat.le_of_ble_eq_true rfl)) d_Model_thing_73 ⟨Nat.le_of_ble_eq_true rfl, Nat.le_of_ble_eq_true rfl⟩) hZ hS (fun v9 w9 H locs q10 hP hS => ?_) (fun x9 w9 H locs q10 hP hS => q10.elim)
                obtain ⟨hv9, hw9⟩ := q10
                subst hv9
                rw [hw9] at hP
                show W _ _ _ _ _ _ _ _ _ _ _ _ _ _ _ (F0 m 76 ls [.int (nI (x_cch σ.now n 0 96))])
                exact hv_iret (v := nI (x_cch σ.now n 0 96)) hQ hx hb hr hZ hS hP hlocks d_Model_thing_76 (⟨by rw [x_thing, hf]; dsimp only; rw [if_neg c30, if_pos c43, x_nf, if_neg c48, if_neg c65, if_pos (x_w3 c19 c24 c30 c48 c65)], _, _, hM, hRel.thr 0, rfl⟩)
              · refine lv_iconst (v := 1) hx hb d_Model_thing_68 (by decide) ?_
                refine lv_goto (tgt := 73) hx hb d_Model_thing_69 (by decide) ?_
                refine hv_call (hv_runV (As := [.int n, .int 1]) (rest := []) (c_Model_links C n 1 hM hRel.1.1) (hv_cw C hZ kc_Model_links kn_Model ⟨rfl, rfl, Nat.le_of_ble_eq_true rfl, Nat.le_of_ble_eq_true rfl⟩) hv_blind (hv_pre hZ hS hP) hx hml hb hown (hts _ k_Model_144) (hts _ ki_Model_links) (hts _ ksel_Model_Model_links) hy_Model_links (hts _ kc_Model_links) (va_recv hK (hv_one hP h3) (ci := 7) (q0 := 0) rfl rfl) rfl hl.1 rfl (lv_room (Nat.le_of_ble_eq_true rfl)) d_Model_thing_73 ⟨Nat.le_of_ble_eq_true rfl, Nat.le_of_ble_eq_true rfl⟩) hZ hS (fun v9 w11 H locs q12 hP hS => ?_) (fun x9 w11 H locs q12 hP hS => q12.elim)
                obtain ⟨hv9, hw9⟩ := q12
                subst hv9
                rw [hw9] at hP
                show W _ _ _ _ _ _ _ _ _ _ _ _ _ _ _ (F0 m 76 ls [.int (nI (x_cch σ.now n 1 96))])
                exact hv_iret (v := nI (x_cch σ.now n 1 96)) hQ hx hb hr hZ hS hP hlocks d_Model_thing_76 (⟨by rw [x_thing, hf]; dsimp only; rw [if_neg c30, if_pos c43, x_nf, if_neg c48, if_pos c65], _, _, hM, hRel.thr 0, rfl⟩)
            · refine lv_aload_n hx hb d_Model_thing_51 rfl (lv_at hl 1 rfl) ?_
              refine va_get (D := D) (ci := 7) (v := .ref (K 5)) (C := R_Model) (T := F_Model) (N := 25) hx hb hts i_Model hown hK (hv_one hP h3) 0 rfl rfl 5 (by decide) (hts _ k_Model_23) (fun _ h9 => h9) rfl d_Model_thing_52 ?_
              refine lv_iload hx hb d_Model_thing_55 (lv_at hl 0 rfl) ?_
              have h13 : w2 (K 5) = some (.inl (ca 0, 640, .inl B.labelMany)) := hM.1.2 5 (by decide)
              refine va_iald hx hb hK (hv_one hP h13) 0 0 rfl rfl (vp_in_nI (n := i) (by omega) (by omega)) d_Model_thing_57 ?_
              rw [nI_clamp (n := i) (by omega)]
              refine lv_goto (tgt := 76) hx hb d_Model_thing_58 (by decide) ?_
              exact hv_iret (v := B.labelMany i) hQ hx hb hr hZ hS hP hlocks d_Model_thing_76 (⟨by rw [x_thing, hf]; dsimp only; rw [if_neg c30, if_pos c43, x_nf, if_pos c48, (hat9.2.2.1 (hx9.elim (fun z => z.2.1) (fun z => absurd (c43.symm.trans z.1) (by decide)))).1], _, _, hM, hRel.thr 0, rfl⟩)
        · refine lv_aload_n hx hb d_Model_thing_33 rfl (lv_at hl 1 rfl) ?_
          refine va_get (D := D) (ci := 7) (v := .ref (K 7)) (C := R_Model) (T := F_Model) (N := 25) hx hb hts i_Model hown hK (hv_one hP h3) 0 rfl rfl 7 (by decide) (hts _ k_Model_29) (fun _ h9 => h9) rfl d_Model_thing_34 ?_
          refine lv_iload hx hb d_Model_thing_37 (lv_at hl 0 rfl) ?_
          have h14 : w2 (K 7) = some (.inl (ca 0, 640, .inl B.propertyMany)) := hM.1.2 7 (by decide)
          refine va_iald hx hb hK (hv_one hP h14) 0 0 rfl rfl (vp_in_nI (n := i) (by omega) (by omega)) d_Model_thing_39 ?_
          rw [nI_clamp (n := i) (by omega)]
          exact hv_iret (v := B.propertyMany i) hQ hx hb hr hZ hS hP hlocks d_Model_thing_40 (⟨by rw [x_thing, hf]; dsimp only; rw [if_pos c30, hat9.2.1.1], _, _, hM, hRel.thr 0, rfl⟩)
      · refine lv_iconst (v := (-1)) hx hb d_Model_thing_27 (by decide) ?_
        exact hv_iret (v := (-1)) hQ hx hb hr hZ hS hP hlocks d_Model_thing_28 (⟨by rw [x_thing, hf]; dsimp only; rw [x_nl_hi c24], _, _, hM, hRel.thr 0, rfl⟩)

abbrev rm_Model_chain : Room := { frames := 1, cells := 0, slots := 0, locals := 24 }
set_option maxHeartbeats 4000000 in
set_option maxRecDepth 100000 in
theorem c_Model_chain {l : Launch} {s0 : State} {D : va_G} {ca : Nat → ClassId} (C : hv_C l s0 D (hv_tys ca)) {w : hv_W} {K : Nat → Nat} {w0 : hv_W} {A : mA} {B : mB} {σ : gS} (n o k : Int32) (hM : mK ca K w0 A B w) (hRel : mRel A B σ) (hW : gW σ)  :
    hv_Met l y_Model_chain [.code y_Model_chain b_Model_chain 6 (some .int)] rm_Model_chain (hv_Pc s0 D w [.ref (K 0), .int n, .int o, .int k]) (hv_Q s0 D (fun v w' => (∃ r, v = some (.int r) ∧ x_kth σ.now n o k r) ∧ mS ca K w0 0 σ w') (fun _ _ => False)) 0 0 (hv_A s0.heap.size) := by
  refine hv_enter C _ (by decide) (Nat.le_of_ble_eq_true rfl) ?_
  intro p e s m below meth c ls Q hQ hx hb hr hml hown hts hK hZ hlocks hname hout htr hP hl
  have hown : s.vm.findClass R_Model = some m.cls := hown
  have hS : va_S (hv_A s0.heap.size) s.heap s.heap [] := va_S.rf
  have hl : lv_has ls 6 [(0, .ref (K 0)), (1, .int n), (2, .int o), (3, .int k)] := hl
  obtain ⟨t9, k9, p9, hA9⟩ := mAo_of hRel
  subst hA9
  have hb9 := hW.hb
  have htp9 := hW.tape
  have hdu9 : σ.due ≤ 2000 := hW.2.2.1.2.2.2
  have hen9 : σ.en ≤ 250 := hW.2.2.1.2.1
  have hlo9 : σ.lo ≤ 250 := hW.2.2.1.2.2.1
  refine lv_aload_n hx hb d_Model_chain_0 rfl (lv_at hl 0 rfl) ?_
  refine lv_iconst (v := 0) hx hb d_Model_chain_1 (by decide) ?_
  have h1 : w (K 0) = some (.inr (7, [.int t9, .ref (K 1), .ref (K 2), .ref (K 3), .ref (K 4), .ref (K 5), .ref (K 6), .ref (K 7), .ref (K 8), .ref (K 9), .ref (K 10), .ref (K 11), .ref (K 12), .int (nI (σ.tape.length)), .ref (K 13), .int (σ.err), .int (σ.off), .int (σ.ins), .int (nI (σ.sc)), .int (nI (σ.ec)), .int (nI (σ.en)), .int (σ.tr), .int (nI (σ.lo)), .int (σ.wr), .int (nI (σ.due))])) := hM.1.2 0 (by decide)
  refine hv_put (D := D) (ci := 7) (v := .int 0) (ty := .int) (C := R_Model) (T := F_Model) (N := 25) hx hb hts i_Model t_Model t_Model_ok n_Model hown hK hP hS h1 rfl 0 (by decide) (hts _ k_Model_51) (fun _ h9 => h9) rfl (by decide +kernel) rfl rfl (Nat.le_of_ble_eq_true rfl) d_Model_chain_2 (fun H locs hP hS => ?_)
  obtain ⟨w2, ew2⟩ : ∃ z9 : hv_W, z9 = va_up w (K 0) (some (.inr (7, [.int 0, .ref (K 1), .ref (K 2), .ref (K 3), .ref (K 4), .ref (K 5), .ref (K 6), .ref (K 7), .ref (K 8), .ref (K 9), .ref (K 10), .ref (K 11), .ref (K 12), .int (nI (σ.tape.length)), .ref (K 13), .int (σ.err), .int (σ.off), .int (σ.ins), .int (nI (σ.sc)), .int (nI (σ.ec)), .int (nI (σ.en)), .int (σ.tr), .int (nI (σ.lo)), .int (σ.wr), .int (nI (σ.due))]))) := ⟨_, rfl⟩
  have hP : hv_P D classes s0.heap.size w2 H := by rw [ew2]; exact hP
  have hM : mK ca K w0 ((mAo t9 k9 p9 σ).sThrown 0) B w2 := by rw [ew2]; exact hM.put 0 (by decide) rfl
  have h3 : w2 (K 0) = some (.inr (7, [.int 0, .ref (K 1), .ref (K 2), .ref (K 3), .ref (K 4), .ref (K 5), .ref (K 6), .ref (K 7), .ref (K 8), .ref (K 9), .ref (K 10), .ref (K 11), .ref (K 12), .int (nI (σ.tape.length)), .ref (K 13), .int (σ.err), .int (σ.off), .int (σ.ins), .int (nI (σ.sc)), .int (nI (σ.ec)), .int (nI (σ.en)), .int (σ.tr), .int (nI (σ.lo)), .int (σ.wr), .int (nI (σ.due))])) := by rw [ew2]; exact hv_up_s
  refine lv_aload_n hx hb d_Model_chain_5 rfl (lv_at hl 0 rfl) ?_
  refine lv_iconst (v := 4) hx hb d_Model_chain_6 (by decide) ?_
  refine lv_iload_n hx hb d_Model_chain_7 rfl (lv_at hl 1 rfl) ?_
  refine hv_call (hv_runV (As := [.int 4, .int n]) (rest := []) (c_Model_find C 4 n hM) (hv_cw C hZ kc_Model_find kn_Model ⟨rfl, rfl, Nat.le_of_ble_eq_true rfl, Nat.le_of_ble_eq_true rfl⟩) hv_blind (hv_pre hZ hS hP) hx hml hb hown (hts _ k_Model_123) (hts _ ki_Model_find) (hts _ ksel_Model_Model_find) hy_Model_find (hts _ kc_Model_find) (va_recv hK (hv_one hP h3) (ci := 7) (q0 := 0) rfl rfl) rfl hl.1 rfl (lv_room (Nat.le_of_ble_eq_true rfl)) d_Model_chain_8 ⟨Nat.le_of_ble_eq_true rfl, Nat.le_of_ble_eq_true rfl⟩) hZ hS (fun v9 w4 H locs q5 hP hS => ?_) (fun x9 w4 H locs q5 hP hS => q5.elim)
  obtain ⟨hv9, hw9⟩ := q5
  subst hv9
  rw [hw9] at hP
  show W _ _ _ _ _ _ _ _ _ _ _ _ _ _ _ (F0 m 11 ls [.int (m_find B 4 n)])
  rw [m_find_eq hRel.1.1]
  cases hf : x_find σ.now 4 n with
  | none =>
    rw [m_find2_n hf]
    show W _ _ _ _ _ _ _ _ _ _ _ _ _ _ _ (F0 m 11 ls [.int ((-1))])
    refine lv_if_ge (tgt := 18) hx hb d_Model_chain_11 (by decide) (fun c11 => ?_) (fun c11 => ?_)
    · exact absurd c11 (by decide)
    · refine lv_iconst (v := (-1)) hx hb d_Model_chain_14 (by decide) ?_
      refine lv_goto (tgt := 19) hx hb d_Model_chain_15 (by decide) ?_
      refine lv_istore (lv' := [(4, .int ((-1))), (0, .ref (K 0)), (1, .int n), (2, .int o), (3, .int k)]) hx hb d_Model_chain_19 hl (by decide) rfl (fun ls hl => ?_)
      refine lv_bipush (v := 64) hx hb d_Model_chain_21 (by decide) ?_
      refine lv_istore (lv' := [(5, .int 64), (4, .int ((-1))), (0, .ref (K 0)), (1, .int n), (2, .int o), (3, .int k)]) hx hb d_Model_chain_23 hl (by decide) rfl (fun ls hl => ?_)
      refine lv_iload hx hb d_Model_chain_25 (lv_at hl 0 rfl) ?_
      refine lv_sipush (v := 160) hx hb d_Model_chain_27 (by decide) ?_
      refine gk_icmp_ge (x := 64) (y := 160) (tgt := 93) hx hb d_Model_chain_30 (by decide) (by omega) (by omega) (fun c30 => ?_) (fun c30 => ?_)
      · exact absurd c30 (by decide)
      · refine lv_iload hx hb d_Model_chain_33 (lv_at hl 1 rfl) ?_
        refine lv_if_lt (tgt := 93) hx hb d_Model_chain_35 (by decide) (fun c35 => ?_) (fun c35 => ?_)
        · refine lv_iconst (v := (-1)) hx hb d_Model_chain_93 (by decide) ?_
          exact hv_iret (v := (-1)) hQ hx hb hr hZ hS hP hlocks d_Model_chain_94 (⟨⟨_, rfl, x_kth_none (x_inch_none hW hf)⟩, _, _, hM, hRel.thr 0, rfl⟩)
        · exact absurd c35 (by decide)
  | some it =>
    obtain ⟨i, t⟩ := it
    rw [m_find2_s hf]
    have hi : i < 160 := x_find_lt hf
    have ht : σ.now i = some t := (x_find_some hf).1
    have hw := hW.t hi ht
    show W _ _ _ _ _ _ _ _ _ _ _ _ _ _ _ (F0 m 11 ls [.int (nI i)])
    refine gk_if_ge (x := i) (tgt := 18) hx hb d_Model_chain_11 (by decide) (by omega) ?_
    refine lv_iload_n hx hb d_Model_chain_18 rfl (lv_at hl 3 rfl) ?_
    refine lv_istore (lv' := [(4, .int k), (0, .ref (K 0)), (1, .int n), (2, .int o), (3, .int k)]) hx hb d_Model_chain_19 hl (by decide) rfl (fun ls hl => ?_)
    refine lv_bipush (v := 64) hx hb d_Model_chain_21 (by decide) ?_
    refine lv_istore (lv' := [(5, .int 64), (4, .int k), (0, .ref (K 0)), (1, .int n), (2, .int o), (3, .int k)]) hx hb d_Model_chain_23 hl (by decide) rfl (fun ls hl => ?_)
    rcases Classical.em (k < 0) with hk0 | hk0
    · refine lv_iload hx hb d_Model_chain_25 (lv_at hl 0 rfl) ?_
      refine lv_sipush (v := 160) hx hb d_Model_chain_27 (by decide) ?_
      refine gk_icmp_ge (x := 64) (y := 160) (tgt := 93) hx hb d_Model_chain_30 (by decide) (by omega) (by omega) (fun c30 => ?_) (fun c30 => ?_)
      · exact absurd c30 (by decide)
      · refine lv_iload hx hb d_Model_chain_33 (lv_at hl 1 rfl) ?_
        refine lv_if_lt (tgt := 93) hx hb d_Model_chain_35 (by decide) (fun c35 => ?_) (fun c35 => ?_)
        · refine lv_iconst (v := (-1)) hx hb d_Model_chain_93 (by decide) ?_
          exact hv_iret (v := (-1)) hQ hx hb hr hZ hS hP hlocks d_Model_chain_94 (⟨⟨_, rfl, x_kth_neg hk0⟩, _, _, hM, hRel.thr 0, rfl⟩)
        · exact absurd hk0 c35
    · obtain ⟨kk, hkk, hke⟩ := nI_of31 hk0
      subst hke
      have lp : ∀ (n9lp : Nat) (j : Nat), 96 - j < n9lp → (j ≤ 96) → (x_cch σ.now n o j ≤ kk) → ∀ (H : Heap) (locs : List Loc) (ls : Array Slot), hv_P D classes s0.heap.size w2 H → va_S (hv_A s0.heap.size) s.heap H locs → lv_has ls 6 [(0, .ref (K 0)), (1, .int n), (2, .int o), (3, .int (nI kk)), (4, .int (nI (kk - x_cch σ.now n o j))), (5, .int (nI (64 + j)))] → W p l e rm_Model_chain s m ([.ref (K 0), .int n, .int o, .int (nI kk)] : List Value).toArray below meth c H locs 0 0 Q (F0 m 25 ls []) := by
        intro n9lp
        induction n9lp with
        | zero =>
          intro j hn9lp
          exact absurd hn9lp (Nat.not_lt_zero _)
        | succ n9lp ihlp =>
          intro j hn9lp hj hc H locs ls hP hS hl
          refine lv_iload hx hb d_Model_chain_25 (lv_at hl 5 rfl) ?_
          refine lv_sipush (v := 160) hx hb d_Model_chain_27 (by decide) ?_
          refine gk_icmp_ge (x := 64 + j) (y := 160) (tgt := 93) hx hb d_Model_chain_30 (by decide) (by omega) (by omega) (fun c30 => ?_) (fun c30 => ?_)
          · have hj96 : j = 96 := by omega
            refine lv_iconst (v := (-1)) hx hb d_Model_chain_93 (by decide) ?_
            exact hv_iret (v := (-1)) hQ hx hb hr hZ hS hP hlocks d_Model_chain_94 (⟨⟨_, rfl, x_kth_end hkk (by rw [← hj96]; exact hc)⟩, _, _, hM, hRel.thr 0, rfl⟩)
          · have hcle := x_cch_le σ.now n o j
            refine lv_iload hx hb d_Model_chain_33 (lv_at hl 4 rfl) ?_
            refine gk_if_lt (x := kk - x_cch σ.now n o j) (tgt := 93) hx hb d_Model_chain_35 (by decide) (by omega) ?_
            refine lv_aload_n hx hb d_Model_chain_38 rfl (lv_at hl 0 rfl) ?_
            have h6 : w2 (K 0) = some (.inr (7, [.int 0, .ref (K 1), .ref (K 2), .ref (K 3), .ref (K 4), .ref (K 5), .ref (K 6), .ref (K 7), .ref (K 8), .ref (K 9), .ref (K 10), .ref (K 11), .ref (K 12), .int (nI (σ.tape.length)), .ref (K 13), .int (σ.err), .int (σ.off), .int (σ.ins), .int (nI (σ.sc)), .int (nI (σ.ec)), .int (nI (σ.en)), .int (σ.tr), .int (nI (σ.lo)), .int (σ.wr), .int (nI (σ.due))])) := hM.1.2 0 (by decide)
            refine va_get (D := D) (ci := 7) (v := .ref (K 1)) (C := R_Model) (T := F_Model) (N := 25) hx hb hts i_Model hown hK (hv_one hP h6) 0 rfl rfl 1 (by decide) (hts _ k_Model_7) (fun _ h9 => h9) rfl d_Model_chain_39 ?_
            refine lv_iload hx hb d_Model_chain_42 (lv_at hl 5 rfl) ?_
            have h7 : w2 (K 1) = some (.inl (ca 2, 640, .inl B.there)) := hM.1.2 1 (by decide)
            refine va_zald hx hb hK (hv_one hP h7) 0 2 rfl rfl (vp_in_nI (n := 64 + j) (by omega) (by omega)) d_Model_chain_44 ?_
            rw [nI_clamp (n := 64 + j) (by omega)]
            refine lv_if_eq (tgt := 87) hx hb d_Model_chain_45 (by decide) (fun c45 => ?_) (fun c45 => ?_)
            · have hin : x_inch σ.now j n o = 0 := x_in0 (mT_none (mG0 hRel.1.1 (by omega)) c45)
              have hnx : x_cch σ.now n o (j + 1) ≤ kk := by rw [x_cch, hin]; exact hc
              have hsame : x_cch σ.now n o j = x_cch σ.now n o (j + 1) := by rw [x_cch, hin]; rfl
              rw [hsame] at hl
              refine lv_iinc (v := (nI (64 + (j + 1)))) (lv' := [(5, .int ((nI (64 + (j + 1))))), (0, .ref (K 0)), (1, .int n), (2, .int o), (3, .int (nI kk)), (4, .int (nI (kk - x_cch σ.now n o (j + 1))))]) hx hb d_Model_chain_87 hl (k := 5) rfl (nI_add (64 + j) 1) (by decide) rfl (fun ls hl => ?_)
              refine lv_goto (tgt := 25) hx hb d_Model_chain_90 (by decide) ?_
              exact ihlp (j + 1) (by omega) (by omega) hnx _ _ _ hP hS (lv_sub hl [1, 2, 3, 4, 5, 0] rfl)
            · obtain ⟨t, ht, -, -, -, hlk⟩ := mT_some (mG0 hRel.1.1 (show 64 + j < 160 by omega)) c45
              obtain ⟨hst9, hen8, -⟩ := hlk (by omega)
              refine lv_iload_n hx hb d_Model_chain_48 rfl (lv_at hl 2 rfl) ?_
              refine lv_if_eq (tgt := 62) hx hb d_Model_chain_49 (by decide) (fun c49 => ?_) (fun c49 => ?_)
              · refine lv_aload_n hx hb d_Model_chain_62 rfl (lv_at hl 0 rfl) ?_
                refine va_get (D := D) (ci := 7) (v := .ref (K 3)) (C := R_Model) (T := F_Model) (N := 25) hx hb hts i_Model hown hK (hv_one hP h6) 0 rfl rfl 3 (by decide) (hts _ k_Model_17) (fun _ h9 => h9) rfl d_Model_chain_63 ?_
                refine lv_iload hx hb d_Model_chain_66 (lv_at hl 5 rfl) ?_
                have h8 : w2 (K 3) = some (.inl (ca 0, 640, .inl B.ends)) := hM.1.2 3 (by decide)
                refine va_iald hx hb hK (hv_one hP h8) 0 0 rfl rfl (vp_in_nI (n := 64 + j) (by omega) (by omega)) d_Model_chain_68 ?_
                rw [nI_clamp (n := 64 + j) (by omega)]
                refine lv_iload_n hx hb d_Model_chain_69 rfl (lv_at hl 1 rfl) ?_
                refine lv_icmp_ne (tgt := 87) hx hb d_Model_chain_70 (by decide) (fun c70 => ?_) (fun c70 => ?_)
                · have hin : x_inch σ.now j n o = 0 := x_in1 ht (by rw [if_pos c49, ← hen8]; exact c70)
                  have hnx : x_cch σ.now n o (j + 1) ≤ kk := by rw [x_cch, hin]; exact hc
                  have hsame : x_cch σ.now n o j = x_cch σ.now n o (j + 1) := by rw [x_cch, hin]; rfl
                  rw [hsame] at hl
                  refine lv_iinc (v := (nI (64 + (j + 1)))) (lv' := [(5, .int ((nI (64 + (j + 1))))), (0, .ref (K 0)), (1, .int n), (2, .int o), (3, .int (nI kk)), (4, .int (nI (kk - x_cch σ.now n o (j + 1))))]) hx hb d_Model_chain_87 hl (k := 5) rfl (nI_add (64 + j) 1) (by decide) rfl (fun ls hl => ?_)
                  refine lv_goto (tgt := 25) hx hb d_Model_chain_90 (by decide) ?_
                  exact ihlp (j + 1) (by omega) (by omega) hnx _ _ _ hP hS (lv_sub hl [1, 2, 3, 4, 5, 0] rfl)
                · have hin : x_inch σ.now j n o = 1 := x_in2 ht (by rw [if_pos c49, ← hen8]; exact c70)
                  refine lv_iload hx hb d_Model_chain_73 (lv_at hl 4 rfl) ?_
                  refine gk_if_ne (x := kk - x_cch σ.now n o j) (tgt := 84) hx hb d_Model_chain_75 (by decide) (by omega) (fun c75 => ?_) (fun c75 => ?_)
                  · have hnx : x_cch σ.now n o (j + 1) ≤ kk := by rw [x_cch, hin]; omega
                    refine lv_iinc (v := (nI (kk - x_cch σ.now n o (j + 1)))) (lv' := [(4, .int ((nI (kk - x_cch σ.now n o (j + 1))))), (0, .ref (K 0)), (1, .int n), (2, .int o), (3, .int (nI kk)), (5, .int (nI (64 + j)))]) hx hb d_Model_chain_84 hl (k := 4) rfl (by rw [x_cch, hin, ← Nat.sub_sub]; exact gk_dec1 (by omega)) (by decide) rfl (fun ls hl => ?_)
                    refine lv_iinc (v := (nI (64 + (j + 1)))) (lv' := [(5, .int ((nI (64 + (j + 1))))), (4, .int ((nI (kk - x_cch σ.now n o (j + 1))))), (0, .ref (K 0)), (1, .int n), (2, .int o), (3, .int (nI kk))]) hx hb d_Model_chain_87 hl (k := 5) rfl (nI_add (64 + j) 1) (by decide) rfl (fun ls hl => ?_)
                    refine lv_goto (tgt := 25) hx hb d_Model_chain_90 (by decide) ?_
                    exact ihlp (j + 1) (by omega) (by omega) hnx _ _ _ hP hS (lv_sub hl [2, 3, 4, 5, 1, 0] rfl)
                  · refine lv_iload hx hb d_Model_chain_78 (lv_at hl 5 rfl) ?_
                    refine lv_bipush (v := 64) hx hb d_Model_chain_80 (by decide) ?_
                    refine gk_isub (x := 64 + j) (y := 64) hx hb d_Model_chain_82 (by omega) ?_
                    refine lv_topi (fun v9 e9 => ?_)
                    have e9 : v9 = nI j := e9.trans (by rw [show 64 + j - 64 = j by omega])
                    subst e9
                    show W _ _ _ _ _ _ _ _ _ _ _ _ _ _ _ (F0 m 83 ls [.int (nI j)])
                    exact hv_iret (v := nI j) hQ hx hb hr hZ hS hP hlocks d_Model_chain_83 (⟨⟨_, rfl, Or.inl ⟨j, by omega, rfl, by rw [hin]; decide, congrArg nI (by omega)⟩⟩, _, _, hM, hRel.thr 0, rfl⟩)
              · refine lv_aload_n hx hb d_Model_chain_52 rfl (lv_at hl 0 rfl) ?_
                refine va_get (D := D) (ci := 7) (v := .ref (K 2)) (C := R_Model) (T := F_Model) (N := 25) hx hb hts i_Model hown hK (hv_one hP h6) 0 rfl rfl 2 (by decide) (hts _ k_Model_13) (fun _ h9 => h9) rfl d_Model_chain_53 ?_
                refine lv_iload hx hb d_Model_chain_56 (lv_at hl 5 rfl) ?_
                have h9 : w2 (K 2) = some (.inl (ca 0, 640, .inl B.starts)) := hM.1.2 2 (by decide)
                refine va_iald hx hb hK (hv_one hP h9) 0 0 rfl rfl (vp_in_nI (n := 64 + j) (by omega) (by omega)) d_Model_chain_58 ?_
                rw [nI_clamp (n := 64 + j) (by omega)]
                refine lv_goto (tgt := 69) hx hb d_Model_chain_59 (by decide) ?_
                refine lv_iload_n hx hb d_Model_chain_69 rfl (lv_at hl 1 rfl) ?_
                refine lv_icmp_ne (tgt := 87) hx hb d_Model_chain_70 (by decide) (fun c70 => ?_) (fun c70 => ?_)
                · have hin : x_inch σ.now j n o = 0 := x_in1 ht (by rw [if_neg c49, ← hst9]; exact c70)
                  have hnx : x_cch σ.now n o (j + 1) ≤ kk := by rw [x_cch, hin]; exact hc
                  have hsame : x_cch σ.now n o j = x_cch σ.now n o (j + 1) := by rw [x_cch, hin]; rfl
                  rw [hsame] at hl
                  refine lv_iinc (v := (nI (64 + (j + 1)))) (lv' := [(5, .int ((nI (64 + (j + 1))))), (0, .ref (K 0)), (1, .int n), (2, .int o), (3, .int (nI kk)), (4, .int (nI (kk - x_cch σ.now n o (j + 1))))]) hx hb d_Model_chain_87 hl (k := 5) rfl (nI_add (64 + j) 1) (by decide) rfl (fun ls hl => ?_)
                  refine lv_goto (tgt := 25) hx hb d_Model_chain_90 (by decide) ?_
                  exact ihlp (j + 1) (by omega) (by omega) hnx _ _ _ hP hS (lv_sub hl [1, 2, 3, 4, 5, 0] rfl)
                · have hin : x_inch σ.now j n o = 1 := x_in2 ht (by rw [if_neg c49, ← hst9]; exact c70)
                  refine lv_iload hx hb d_Model_chain_73 (lv_at hl 4 rfl) ?_
                  refine gk_if_ne (x := kk - x_cch σ.now n o j) (tgt := 84) hx hb d_Model_chain_75 (by decide) (by omega) (fun c75 => ?_) (fun c75 => ?_)
                  · have hnx : x_cch σ.now n o (j + 1) ≤ kk := by rw [x_cch, hin]; omega
                    refine lv_iinc (v := (nI (kk - x_cch σ.now n o (j + 1)))) (lv' := [(4, .int ((nI (kk - x_cch σ.now n o (j + 1))))), (0, .ref (K 0)), (1, .int n), (2, .int o), (3, .int (nI kk)), (5, .int (nI (64 + j)))]) hx hb d_Model_chain_84 hl (k := 4) rfl (by rw [x_cch, hin, ← Nat.sub_sub]; exact gk_dec1 (by omega)) (by decide) rfl (fun ls hl => ?_)
                    refine lv_iinc (v := (nI (64 + (j + 1)))) (lv' := [(5, .int ((nI (64 + (j + 1))))), (4, .int ((nI (kk - x_cch σ.now n o (j + 1))))), (0, .ref (K 0)), (1, .int n), (2, .int o), (3, .int (nI kk))]) hx hb d_Model_chain_87 hl (k := 5) rfl (nI_add (64 + j) 1) (by decide) rfl (fun ls hl => ?_)
                    refine lv_goto (tgt := 25) hx hb d_Model_chain_90 (by decide) ?_
                    exact ihlp (j + 1) (by omega) (by omega) hnx _ _ _ hP hS (lv_sub hl [2, 3, 4, 5, 1, 0] rfl)
                  · refine lv_iload hx hb d_Model_chain_78 (lv_at hl 5 rfl) ?_
                    refine lv_bipush (v := 64) hx hb d_Model_chain_80 (by decide) ?_
                    refine gk_isub (x := 64 + j) (y := 64) hx hb d_Model_chain_82 (by omega) ?_
                    refine lv_topi (fun v9 e9 => ?_)
                    have e9 : v9 = nI j := e9.trans (by rw [show 64 + j - 64 = j by omega])
                    subst e9
                    show W _ _ _ _ _ _ _ _ _ _ _ _ _ _ _ (F0 m 83 ls [.int (nI j)])
                    exact hv_iret (v := nI j) hQ hx hb hr hZ hS hP hlocks d_Model_chain_83 (⟨⟨_, rfl, Or.inl ⟨j, by omega, rfl, by rw [hin]; decide, congrArg nI (by omega)⟩⟩, _, _, hM, hRel.thr 0, rfl⟩)
      exact lp _ 0 (Nat.lt_succ_self _) (Nat.zero_le _) (Nat.zero_le _) _ _ _ hP hS (lv_sub hl [2, 3, 4, 5, 1, 0] rfl)

abbrev rm_Model_value : Room := { frames := 1, cells := 0, slots := 0, locals := 24 }
set_option maxHeartbeats 4000000 in
set_option maxRecDepth 100000 in
theorem c_Model_value {l : Launch} {s0 : State} {D : va_G} {ca : Nat → ClassId} (C : hv_C l s0 D (hv_tys ca)) {w : hv_W} {K : Nat → Nat} {w0 : hv_W} {A : mA} {B : mB} {σ : gS} (k n y wh : Int32) (hM : mK ca K w0 A B w) (hRel : mRel A B σ) (hW : gW σ)  :
    hv_Met l y_Model_value [.code y_Model_value b_Model_value 9 (some .long)] rm_Model_value (hv_Pc s0 D w [.ref (K 0), .int k, .int n, .int y, .int wh]) (hv_Q s0 D (fun v w' => mRv ca K w0 σ (x_value σ k n y wh) v w') (fun _ _ => False)) 0 0 (hv_A s0.heap.size) := by
  refine hv_enter C _ (by decide) (Nat.le_of_ble_eq_true rfl) ?_
  intro p e s m below meth c ls Q hQ hx hb hr hml hown hts hK hZ hlocks hname hout htr hP hl
  have hown : s.vm.findClass R_Model = some m.cls := hown
  have hS : va_S (hv_A s0.heap.size) s.heap s.heap [] := va_S.rf
  have hl : lv_has ls 9 [(0, .ref (K 0)), (1, .int k), (2, .int n), (3, .int y), (4, .int wh)] := hl
  obtain ⟨t9, k9, p9, hA9⟩ := mAo_of hRel
  subst hA9
  have hb9 := hW.hb
  have htp9 := hW.tape
  have hdu9 : σ.due ≤ 2000 := hW.2.2.1.2.2.2
  have hen9 : σ.en ≤ 250 := hW.2.2.1.2.1
  have hlo9 : σ.lo ≤ 250 := hW.2.2.1.2.2.1
  refine lv_aload_n hx hb d_Model_value_0 rfl (lv_at hl 0 rfl) ?_
  refine lv_iload_n hx hb d_Model_value_1 rfl (lv_at hl 1 rfl) ?_
  refine lv_iload_n hx hb d_Model_value_2 rfl (lv_at hl 2 rfl) ?_
  have h1 : w (K 0) = some (.inr (7, [.int t9, .ref (K 1), .ref (K 2), .ref (K 3), .ref (K 4), .ref (K 5), .ref (K 6), .ref (K 7), .ref (K 8), .ref (K 9), .ref (K 10), .ref (K 11), .ref (K 12), .int (nI (σ.tape.length)), .ref (K 13), .int (σ.err), .int (σ.off), .int (σ.ins), .int (nI (σ.sc)), .int (nI (σ.ec)), .int (nI (σ.en)), .int (σ.tr), .int (nI (σ.lo)), .int (σ.wr), .int (nI (σ.due))])) := hM.1.2 0 (by decide)
  refine hv_call (hv_runV (As := [.int k, .int n]) (rest := []) (c_Model_find C k n hM) (hv_cw C hZ kc_Model_find kn_Model ⟨rfl, rfl, Nat.le_of_ble_eq_true rfl, Nat.le_of_ble_eq_true rfl⟩) hv_blind (hv_pre hZ hS hP) hx hml hb hown (hts _ k_Model_123) (hts _ ki_Model_find) (hts _ ksel_Model_Model_find) hy_Model_find (hts _ kc_Model_find) (va_recv hK (hv_one hP h1) (ci := 7) (q0 := 0) rfl rfl) rfl hl.1 rfl (lv_room (Nat.le_of_ble_eq_true rfl)) d_Model_value_3 ⟨Nat.le_of_ble_eq_true rfl, Nat.le_of_ble_eq_true rfl⟩) hZ hS (fun v9 w2 H locs q3 hP hS => ?_) (fun x9 w2 H locs q3 hP hS => q3.elim)
  obtain ⟨hv9, hw9⟩ := q3
  subst hv9
  rw [hw9] at hP
  show W _ _ _ _ _ _ _ _ _ _ _ _ _ _ _ (F0 m 6 ls [.int (m_find B k n)])
  rw [m_find_eq hRel.1.1]
  cases hf : x_find σ.now k n with
  | none =>
    rw [m_find2_n hf]
    show W _ _ _ _ _ _ _ _ _ _ _ _ _ _ _ (F0 m 6 ls [.int ((-1))])
    refine lv_istore (lv' := [(5, .int ((-1))), (0, .ref (K 0)), (1, .int k), (2, .int n), (3, .int y), (4, .int wh)]) hx hb d_Model_value_6 hl (by decide) rfl (fun ls hl => ?_)
    refine lv_iload hx hb d_Model_value_8 (lv_at hl 0 rfl) ?_
    refine lv_if_ge (tgt := 17) hx hb d_Model_value_10 (by decide) (fun c10 => ?_) (fun c10 => ?_)
    · exact absurd c10 (by decide)
    · refine lv_iconst (v := (-1)) hx hb d_Model_value_13 (by decide) ?_
      refine lv_goto (tgt := 24) hx hb d_Model_value_14 (by decide) ?_
      refine lv_istore (lv' := [(6, .int ((-1))), (5, .int ((-1))), (0, .ref (K 0)), (1, .int k), (2, .int n), (3, .int y), (4, .int wh)]) hx hb d_Model_value_24 hl (by decide) rfl (fun ls hl => ?_)
      refine lv_iload hx hb d_Model_value_26 (lv_at hl 0 rfl) ?_
      refine lv_if_lt (tgt := 65) hx hb d_Model_value_28 (by decide) (fun c28 => ?_) (fun c28 => ?_)
      · refine lv_iconst (v := 0) hx hb d_Model_value_65 (by decide) ?_
        refine lv_istore (lv' := [(7, .int 0), (6, .int ((-1))), (5, .int ((-1))), (0, .ref (K 0)), (1, .int k), (2, .int n), (3, .int y), (4, .int wh)]) hx hb d_Model_value_66 hl (by decide) rfl (fun ls hl => ?_)
        refine lv_iload hx hb d_Model_value_68 (lv_at hl 7 rfl) ?_
        refine lv_iconst (v := (-1)) hx hb d_Model_value_70 (by decide) ?_
        refine lv_icmp_ne (tgt := 87) hx hb d_Model_value_71 (by decide) (fun c71 => ?_) (fun c71 => ?_)
        · refine lv_iload hx hb d_Model_value_87 (lv_at hl 7 rfl) ?_
          refine lv_bipush (v := (-2)) hx hb d_Model_value_89 (by decide) ?_
          refine lv_icmp_ne (tgt := 107) hx hb d_Model_value_91 (by decide) (fun c91 => ?_) (fun c91 => ?_)
          · refine lv_iload hx hb d_Model_value_107 (lv_at hl 0 rfl) ?_
            refine lv_istore (lv' := [(8, .int 0), (7, .int 0), (6, .int ((-1))), (5, .int ((-1))), (0, .ref (K 0)), (1, .int k), (2, .int n), (3, .int y), (4, .int wh)]) hx hb d_Model_value_109 hl (by decide) rfl (fun ls hl => ?_)
            refine lv_aload_n hx hb d_Model_value_111 rfl (lv_at hl 4 rfl) ?_
            refine lv_iload hx hb d_Model_value_112 (lv_at hl 0 rfl) ?_
            refine lv_if_eq (tgt := 121) hx hb d_Model_value_114 (by decide) (fun c114 => ?_) (fun c114 => ?_)
            · refine lv_iconst (v := 1) hx hb d_Model_value_121 (by decide) ?_
              refine hv_put (D := D) (ci := 7) (v := .int 1) (ty := .int) (C := R_Model) (T := F_Model) (N := 25) hx hb hts i_Model t_Model t_Model_ok n_Model hown hK hP hS h1 rfl 0 (by decide) (hts _ k_Model_51) (fun _ h9 => h9) rfl (by decide +kernel) rfl rfl (Nat.le_of_ble_eq_true rfl) d_Model_value_122 (fun H locs hP hS => ?_)
              obtain ⟨w4, ew4⟩ : ∃ z9 : hv_W, z9 = va_up w (K 0) (some (.inr (7, [.int 1, .ref (K 1), .ref (K 2), .ref (K 3), .ref (K 4), .ref (K 5), .ref (K 6), .ref (K 7), .ref (K 8), .ref (K 9), .ref (K 10), .ref (K 11), .ref (K 12), .int (nI (σ.tape.length)), .ref (K 13), .int (σ.err), .int (σ.off), .int (σ.ins), .int (nI (σ.sc)), .int (nI (σ.ec)), .int (nI (σ.en)), .int (σ.tr), .int (nI (σ.lo)), .int (σ.wr), .int (nI (σ.due))]))) := ⟨_, rfl⟩
              have hP : hv_P D classes s0.heap.size w4 H := by rw [ew4]; exact hP
              have hM : mK ca K w0 ((mAo t9 k9 p9 σ).sThrown 1) B w4 := by rw [ew4]; exact hM.put 0 (by decide) rfl
              have h5 : w4 (K 0) = some (.inr (7, [.int 1, .ref (K 1), .ref (K 2), .ref (K 3), .ref (K 4), .ref (K 5), .ref (K 6), .ref (K 7), .ref (K 8), .ref (K 9), .ref (K 10), .ref (K 11), .ref (K 12), .int (nI (σ.tape.length)), .ref (K 13), .int (σ.err), .int (σ.off), .int (σ.ins), .int (nI (σ.sc)), .int (nI (σ.ec)), .int (nI (σ.en)), .int (σ.tr), .int (nI (σ.lo)), .int (σ.wr), .int (nI (σ.due))])) := by rw [ew4]; exact hv_up_s
              refine lv_iload hx hb d_Model_value_125 (lv_at hl 0 rfl) ?_
              refine lv_if_eq (tgt := 135) hx hb d_Model_value_127 (by decide) (fun c127 => ?_) (fun c127 => ?_)
              · refine lv_lconst (v := 0) hx hb d_Model_value_135 (by decide) ?_
                exact hv_lret (v := 0) hQ hx hb hr hZ hS hP hlocks d_Model_value_136 (mRv.of (r' := (1, 0)) (by rw [x_value, hf]) (fun z9 => absurd z9 (show ¬ (1 : Nat) = 0 by decide)) hM (hRel.thr 1) rfl)
              · exact absurd c127 (by decide)
            · exact absurd c114 (by decide)
          · refine lv_iload hx hb d_Model_value_94 (lv_at hl 1 rfl) ?_
            refine lv_if_lt (tgt := 103) hx hb d_Model_value_96 (by decide) (fun c96 => ?_) (fun c96 => ?_)
            · refine lv_iconst (v := 0) hx hb d_Model_value_103 (by decide) ?_
              refine lv_goto (tgt := 109) hx hb d_Model_value_104 (by decide) ?_
              refine lv_istore (lv' := [(8, .int 0), (7, .int 0), (6, .int ((-1))), (5, .int ((-1))), (0, .ref (K 0)), (1, .int k), (2, .int n), (3, .int y), (4, .int wh)]) hx hb d_Model_value_109 hl (by decide) rfl (fun ls hl => ?_)
              refine lv_aload_n hx hb d_Model_value_111 rfl (lv_at hl 4 rfl) ?_
              refine lv_iload hx hb d_Model_value_112 (lv_at hl 0 rfl) ?_
              refine lv_if_eq (tgt := 121) hx hb d_Model_value_114 (by decide) (fun c114 => ?_) (fun c114 => ?_)
              · refine lv_iconst (v := 1) hx hb d_Model_value_121 (by decide) ?_
                refine hv_put (D := D) (ci := 7) (v := .int 1) (ty := .int) (C := R_Model) (T := F_Model) (N := 25) hx hb hts i_Model t_Model t_Model_ok n_Model hown hK hP hS h1 rfl 0 (by decide) (hts _ k_Model_51) (fun _ h9 => h9) rfl (by decide +kernel) rfl rfl (Nat.le_of_ble_eq_true rfl) d_Model_value_122 (fun H locs hP hS => ?_)
                obtain ⟨w6, ew6⟩ : ∃ z9 : hv_W, z9 = va_up w (K 0) (some (.inr (7, [.int 1, .ref (K 1), .ref (K 2), .ref (K 3), .ref (K 4), .ref (K 5), .ref (K 6), .ref (K 7), .ref (K 8), .ref (K 9), .ref (K 10), .ref (K 11), .ref (K 12), .int (nI (σ.tape.length)), .ref (K 13), .int (σ.err), .int (σ.off), .int (σ.ins), .int (nI (σ.sc)), .int (nI (σ.ec)), .int (nI (σ.en)), .int (σ.tr), .int (nI (σ.lo)), .int (σ.wr), .int (nI (σ.due))]))) := ⟨_, rfl⟩
                have hP : hv_P D classes s0.heap.size w6 H := by rw [ew6]; exact hP
                have hM : mK ca K w0 ((mAo t9 k9 p9 σ).sThrown 1) B w6 := by rw [ew6]; exact hM.put 0 (by decide) rfl
                have h7 : w6 (K 0) = some (.inr (7, [.int 1, .ref (K 1), .ref (K 2), .ref (K 3), .ref (K 4), .ref (K 5), .ref (K 6), .ref (K 7), .ref (K 8), .ref (K 9), .ref (K 10), .ref (K 11), .ref (K 12), .int (nI (σ.tape.length)), .ref (K 13), .int (σ.err), .int (σ.off), .int (σ.ins), .int (nI (σ.sc)), .int (nI (σ.ec)), .int (nI (σ.en)), .int (σ.tr), .int (nI (σ.lo)), .int (σ.wr), .int (nI (σ.due))])) := by rw [ew6]; exact hv_up_s
                refine lv_iload hx hb d_Model_value_125 (lv_at hl 0 rfl) ?_
                refine lv_if_eq (tgt := 135) hx hb d_Model_value_127 (by decide) (fun c127 => ?_) (fun c127 => ?_)
                · refine lv_lconst (v := 0) hx hb d_Model_value_135 (by decide) ?_
                  exact hv_lret (v := 0) hQ hx hb hr hZ hS hP hlocks d_Model_value_136 (mRv.of (r' := (1, 0)) (by rw [x_value, hf]) (fun z9 => absurd z9 (show ¬ (1 : Nat) = 0 by decide)) hM (hRel.thr 1) rfl)
                · exact absurd c127 (by decide)
              · exact absurd c114 (by decide)
            · exact absurd c96 (by decide)
        · refine lv_iload hx hb d_Model_value_74 (lv_at hl 2 rfl) ?_
          refine lv_if_lt (tgt := 83) hx hb d_Model_value_76 (by decide) (fun c76 => ?_) (fun c76 => ?_)
          · refine lv_iconst (v := 0) hx hb d_Model_value_83 (by decide) ?_
            refine lv_goto (tgt := 109) hx hb d_Model_value_84 (by decide) ?_
            refine lv_istore (lv' := [(8, .int 0), (7, .int 0), (6, .int ((-1))), (5, .int ((-1))), (0, .ref (K 0)), (1, .int k), (2, .int n), (3, .int y), (4, .int wh)]) hx hb d_Model_value_109 hl (by decide) rfl (fun ls hl => ?_)
            refine lv_aload_n hx hb d_Model_value_111 rfl (lv_at hl 4 rfl) ?_
            refine lv_iload hx hb d_Model_value_112 (lv_at hl 0 rfl) ?_
            refine lv_if_eq (tgt := 121) hx hb d_Model_value_114 (by decide) (fun c114 => ?_) (fun c114 => ?_)
            · refine lv_iconst (v := 1) hx hb d_Model_value_121 (by decide) ?_
              refine hv_put (D := D) (ci := 7) (v := .int 1) (ty := .int) (C := R_Model) (T := F_Model) (N := 25) hx hb hts i_Model t_Model t_Model_ok n_Model hown hK hP hS h1 rfl 0 (by decide) (hts _ k_Model_51) (fun _ h9 => h9) rfl (by decide +kernel) rfl rfl (Nat.le_of_ble_eq_true rfl) d_Model_value_122 (fun H locs hP hS => ?_)
              obtain ⟨w8, ew8⟩ : ∃ z9 : hv_W, z9 = va_up w (K 0) (some (.inr (7, [.int 1, .ref (K 1), .ref (K 2), .ref (K 3), .ref (K 4), .ref (K 5), .ref (K 6), .ref (K 7), .ref (K 8), .ref (K 9), .ref (K 10), .ref (K 11), .ref (K 12), .int (nI (σ.tape.length)), .ref (K 13), .int (σ.err), .int (σ.off), .int (σ.ins), .int (nI (σ.sc)), .int (nI (σ.ec)), .int (nI (σ.en)), .int (σ.tr), .int (nI (σ.lo)), .int (σ.wr), .int (nI (σ.due))]))) := ⟨_, rfl⟩
              have hP : hv_P D classes s0.heap.size w8 H := by rw [ew8]; exact hP
              have hM : mK ca K w0 ((mAo t9 k9 p9 σ).sThrown 1) B w8 := by rw [ew8]; exact hM.put 0 (by decide) rfl
              have h9 : w8 (K 0) = some (.inr (7, [.int 1, .ref (K 1), .ref (K 2), .ref (K 3), .ref (K 4), .ref (K 5), .ref (K 6), .ref (K 7), .ref (K 8), .ref (K 9), .ref (K 10), .ref (K 11), .ref (K 12), .int (nI (σ.tape.length)), .ref (K 13), .int (σ.err), .int (σ.off), .int (σ.ins), .int (nI (σ.sc)), .int (nI (σ.ec)), .int (nI (σ.en)), .int (σ.tr), .int (nI (σ.lo)), .int (σ.wr), .int (nI (σ.due))])) := by rw [ew8]; exact hv_up_s
              refine lv_iload hx hb d_Model_value_125 (lv_at hl 0 rfl) ?_
              refine lv_if_eq (tgt := 135) hx hb d_Model_value_127 (by decide) (fun c127 => ?_) (fun c127 => ?_)
              · refine lv_lconst (v := 0) hx hb d_Model_value_135 (by decide) ?_
                exact hv_lret (v := 0) hQ hx hb hr hZ hS hP hlocks d_Model_value_136 (mRv.of (r' := (1, 0)) (by rw [x_value, hf]) (fun z9 => absurd z9 (show ¬ (1 : Nat) = 0 by decide)) hM (hRel.thr 1) rfl)
              · exact absurd c127 (by decide)
            · exact absurd c114 (by decide)
          · exact absurd c76 (by decide)
      · exact absurd c28 (by decide)
  | some it =>
    obtain ⟨i, t⟩ := it
    rw [m_find2_s hf]
    have hi : i < 160 := x_find_lt hf
    have ht : σ.now i = some t := (x_find_some hf).1
    have hw := hW.t hi ht
    show W _ _ _ _ _ _ _ _ _ _ _ _ _ _ _ (F0 m 6 ls [.int (nI i)])
    have hat9 := hRel.at hi ht
    refine lv_istore (lv' := [(5, .int (nI i)), (0, .ref (K 0)), (1, .int k), (2, .int n), (3, .int y), (4, .int wh)]) hx hb d_Model_value_6 hl (by decide) rfl (fun ls hl => ?_)
    refine lv_iload hx hb d_Model_value_8 (lv_at hl 0 rfl) ?_
    refine gk_if_ge (x := i) (tgt := 17) hx hb d_Model_value_10 (by decide) (by omega) ?_
    refine lv_aload_n hx hb d_Model_value_17 rfl (lv_at hl 1 rfl) ?_
    refine lv_iload hx hb d_Model_value_18 (lv_at hl 0 rfl) ?_
    refine lv_iload_n hx hb d_Model_value_20 rfl (lv_at hl 4 rfl) ?_
    refine hv_call (hv_runV (As := [.int (nI i), .int y]) (rest := []) (c_Model_propertyOf C y (by omega) hM hat9.2.1 hw.2.2.1 hw.2.2.2.1) (hv_cw C hZ kc_Model_propertyOf kn_Model ⟨rfl, rfl, Nat.le_of_ble_eq_true rfl, Nat.le_of_ble_eq_true rfl⟩) hv_blind (hv_pre hZ hS hP) hx hml hb hown (hts _ k_Model_130) (hts _ ki_Model_propertyOf) (hts _ ksel_Model_Model_propertyOf) hy_Model_propertyOf (hts _ kc_Model_propertyOf) (va_recv hK (hv_one hP h1) (ci := 7) (q0 := 0) rfl rfl) rfl hl.1 rfl (lv_room (Nat.le_of_ble_eq_true rfl)) d_Model_value_21 ⟨Nat.le_of_ble_eq_true rfl, Nat.le_of_ble_eq_true rfl⟩) hZ hS (fun v9 w10 H locs q11 hP hS => ?_) (fun x9 w10 H locs q11 hP hS => q11.elim)
    obtain ⟨hv9, hw9⟩ := q11
    subst hv9
    rw [hw9] at hP
    show W _ _ _ _ _ _ _ _ _ _ _ _ _ _ _ (F0 m 24 ls [.int (m_pos i t.ps y)])
    rcases Classical.em (g_pos t.ps y < t.ps.length) with hg | hg
    · obtain ⟨pr, hpe, hp1, hp2, hp3, hp4⟩ := hat9.2.1.2 _ hg
      have hgl : g_look t.ps y = some pr := by have z9 := g_look_pos hg; rw [← List.getElem?_eq_getElem hg, hpe] at z9; exact z9
      have hwp : w_P pr := hw.2.2.2.2 pr (List.mem_of_getElem? hpe)
      have hg6 : g_pos t.ps y < 6 := Nat.lt_of_lt_of_le hg hw.2.2.1
      generalize hgq : g_pos t.ps y = gq at hg hg6 hp1 hp2 hp3 hp4
      rw [show m_pos i t.ps y = nI (6 * i + gq) by rw [m_pos, hgq, if_pos hg]]
      show W _ _ _ _ _ _ _ _ _ _ _ _ _ _ _ (F0 m 24 ls [.int (nI (6 * i + gq))])
      refine lv_istore (lv' := [(6, .int (nI (6 * i + gq))), (5, .int (nI i)), (0, .ref (K 0)), (1, .int k), (2, .int n), (3, .int y), (4, .int wh)]) hx hb d_Model_value_24 hl (by decide) rfl (fun ls hl => ?_)
      refine lv_iload hx hb d_Model_value_26 (lv_at hl 0 rfl) ?_
      refine gk_if_lt (x := 6 * i + gq) (tgt := 65) hx hb d_Model_value_28 (by decide) (by omega) ?_
      refine lv_aload_n hx hb d_Model_value_31 rfl (lv_at hl 2 rfl) ?_
      refine va_get (D := D) (ci := 7) (v := .ref (K 9)) (C := R_Model) (T := F_Model) (N := 25) hx hb hts i_Model hown hK (hv_one hP h1) 0 rfl rfl 9 (by decide) (hts _ k_Model_35) (fun _ h9 => h9) rfl d_Model_value_32 ?_
      refine lv_iload hx hb d_Model_value_35 (lv_at hl 0 rfl) ?_
      have h12 : w (K 9) = some (.inl (ca 0, 3840, .inl B.kinds)) := hM.1.2 9 (by decide)
      refine va_iald hx hb hK (hv_one hP h12) 0 0 rfl rfl (vp_in_nI (n := 6 * i + gq) (by omega) (by omega)) d_Model_value_37 ?_
      rw [nI_clamp (n := 6 * i + gq) (by omega)]
      refine lv_topi (fun v9 e9 => ?_)
      have e9 : v9 = pr.2.1 := e9.trans (hp2)
      subst e9
      show W _ _ _ _ _ _ _ _ _ _ _ _ _ _ _ (F0 m 38 ls [.int pr.2.1])
      refine lv_iconst (v := 3) hx hb d_Model_value_38 (by decide) ?_
      refine lv_icmp_ne (tgt := 65) hx hb d_Model_value_39 (by decide) (fun c39 => ?_) (fun c39 => ?_)
      · refine lv_iconst (v := 0) hx hb d_Model_value_65 (by decide) ?_
        refine lv_istore (lv' := [(7, .int 0), (6, .int (nI (6 * i + gq))), (5, .int (nI i)), (0, .ref (K 0)), (1, .int k), (2, .int n), (3, .int y), (4, .int wh)]) hx hb d_Model_value_66 hl (by decide) rfl (fun ls hl => ?_)
        refine lv_iload hx hb d_Model_value_68 (lv_at hl 7 rfl) ?_
        refine lv_iconst (v := (-1)) hx hb d_Model_value_70 (by decide) ?_
        refine lv_icmp_ne (tgt := 87) hx hb d_Model_value_71 (by decide) (fun c71 => ?_) (fun c71 => ?_)
        · refine lv_iload hx hb d_Model_value_87 (lv_at hl 7 rfl) ?_
          refine lv_bipush (v := (-2)) hx hb d_Model_value_89 (by decide) ?_
          refine lv_icmp_ne (tgt := 107) hx hb d_Model_value_91 (by decide) (fun c91 => ?_) (fun c91 => ?_)
          · refine lv_iload hx hb d_Model_value_107 (lv_at hl 0 rfl) ?_
            refine lv_istore (lv' := [(8, .int 0), (7, .int 0), (6, .int (nI (6 * i + gq))), (5, .int (nI i)), (0, .ref (K 0)), (1, .int k), (2, .int n), (3, .int y), (4, .int wh)]) hx hb d_Model_value_109 hl (by decide) rfl (fun ls hl => ?_)
            refine lv_aload_n hx hb d_Model_value_111 rfl (lv_at hl 4 rfl) ?_
            refine lv_iload hx hb d_Model_value_112 (lv_at hl 0 rfl) ?_
            refine lv_if_eq (tgt := 121) hx hb d_Model_value_114 (by decide) (fun c114 => ?_) (fun c114 => ?_)
            · refine lv_iconst (v := 1) hx hb d_Model_value_121 (by decide) ?_
              refine hv_put (D := D) (ci := 7) (v := .int 1) (ty := .int) (C := R_Model) (T := F_Model) (N := 25) hx hb hts i_Model t_Model t_Model_ok n_Model hown hK hP hS h1 rfl 0 (by decide) (hts _ k_Model_51) (fun _ h9 => h9) rfl (by decide +kernel) rfl rfl (Nat.le_of_ble_eq_true rfl) d_Model_value_122 (fun H locs hP hS => ?_)
              obtain ⟨w13, ew13⟩ : ∃ z9 : hv_W, z9 = va_up w (K 0) (some (.inr (7, [.int 1, .ref (K 1), .ref (K 2), .ref (K 3), .ref (K 4), .ref (K 5), .ref (K 6), .ref (K 7), .ref (K 8), .ref (K 9), .ref (K 10), .ref (K 11), .ref (K 12), .int (nI (σ.tape.length)), .ref (K 13), .int (σ.err), .int (σ.off), .int (σ.ins), .int (nI (σ.sc)), .int (nI (σ.ec)), .int (nI (σ.en)), .int (σ.tr), .int (nI (σ.lo)), .int (σ.wr), .int (nI (σ.due))]))) := ⟨_, rfl⟩
              have hP : hv_P D classes s0.heap.size w13 H := by rw [ew13]; exact hP
              have hM : mK ca K w0 ((mAo t9 k9 p9 σ).sThrown 1) B w13 := by rw [ew13]; exact hM.put 0 (by decide) rfl
              have h14 : w13 (K 0) = some (.inr (7, [.int 1, .ref (K 1), .ref (K 2), .ref (K 3), .ref (K 4), .ref (K 5), .ref (K 6), .ref (K 7), .ref (K 8), .ref (K 9), .ref (K 10), .ref (K 11), .ref (K 12), .int (nI (σ.tape.length)), .ref (K 13), .int (σ.err), .int (σ.off), .int (σ.ins), .int (nI (σ.sc)), .int (nI (σ.ec)), .int (nI (σ.en)), .int (σ.tr), .int (nI (σ.lo)), .int (σ.wr), .int (nI (σ.due))])) := by rw [ew13]; exact hv_up_s
              refine lv_iload hx hb d_Model_value_125 (lv_at hl 0 rfl) ?_
              refine lv_if_eq (tgt := 135) hx hb d_Model_value_127 (by decide) (fun c127 => ?_) (fun c127 => ?_)
              · refine lv_lconst (v := 0) hx hb d_Model_value_135 (by decide) ?_
                exact hv_lret (v := 0) hQ hx hb hr hZ hS hP hlocks d_Model_value_136 (mRv.of (r' := (1, 0)) (by rw [x_value, hf]; dsimp only; rw [hgl]; dsimp only; rw [x_val, if_neg c71, if_neg c91, if_pos (x_vout (hwp.2.2.2.1 c39))]) (fun z9 => absurd z9 (show ¬ (1 : Nat) = 0 by decide)) hM (hRel.thr 1) rfl)
              · exact absurd c127 (by decide)
            · exact absurd c114 (by decide)
          · refine lv_iload hx hb d_Model_value_94 (lv_at hl 1 rfl) ?_
            refine gk_if_lt (x := 6 * i + gq) (tgt := 103) hx hb d_Model_value_96 (by decide) (by omega) ?_
            refine lv_iconst (v := 1) hx hb d_Model_value_99 (by decide) ?_
            refine lv_goto (tgt := 109) hx hb d_Model_value_100 (by decide) ?_
            refine lv_istore (lv' := [(8, .int 1), (7, .int 0), (6, .int (nI (6 * i + gq))), (5, .int (nI i)), (0, .ref (K 0)), (1, .int k), (2, .int n), (3, .int y), (4, .int wh)]) hx hb d_Model_value_109 hl (by decide) rfl (fun ls hl => ?_)
            refine lv_aload_n hx hb d_Model_value_111 rfl (lv_at hl 4 rfl) ?_
            refine lv_iload hx hb d_Model_value_112 (lv_at hl 0 rfl) ?_
            refine lv_if_eq (tgt := 121) hx hb d_Model_value_114 (by decide) (fun c114 => ?_) (fun c114 => ?_)
            · exact absurd c114 (by decide)
            · refine lv_iconst (v := 0) hx hb d_Model_value_117 (by decide) ?_
              refine lv_goto (tgt := 122) hx hb d_Model_value_118 (by decide) ?_
              refine hv_put (D := D) (ci := 7) (v := .int 0) (ty := .int) (C := R_Model) (T := F_Model) (N := 25) hx hb hts i_Model t_Model t_Model_ok n_Model hown hK hP hS h1 rfl 0 (by decide) (hts _ k_Model_51) (fun _ h9 => h9) rfl (by decide +kernel) rfl rfl (Nat.le_of_ble_eq_true rfl) d_Model_value_122 (fun H locs hP hS => ?_)
              obtain ⟨w15, ew15⟩ : ∃ z9 : hv_W, z9 = va_up w (K 0) (some (.inr (7, [.int 0, .ref (K 1), .ref (K 2), .ref (K 3), .ref (K 4), .ref (K 5), .ref (K 6), .ref (K 7), .ref (K 8), .ref (K 9), .ref (K 10), .ref (K 11), .ref (K 12), .int (nI (σ.tape.length)), .ref (K 13), .int (σ.err), .int (σ.off), .int (σ.ins), .int (nI (σ.sc)), .int (nI (σ.ec)), .int (nI (σ.en)), .int (σ.tr), .int (nI (σ.lo)), .int (σ.wr), .int (nI (σ.due))]))) := ⟨_, rfl⟩
              have hP : hv_P D classes s0.heap.size w15 H := by rw [ew15]; exact hP
              have hM : mK ca K w0 ((mAo t9 k9 p9 σ).sThrown 0) B w15 := by rw [ew15]; exact hM.put 0 (by decide) rfl
              have h16 : w15 (K 0) = some (.inr (7, [.int 0, .ref (K 1), .ref (K 2), .ref (K 3), .ref (K 4), .ref (K 5), .ref (K 6), .ref (K 7), .ref (K 8), .ref (K 9), .ref (K 10), .ref (K 11), .ref (K 12), .int (nI (σ.tape.length)), .ref (K 13), .int (σ.err), .int (σ.off), .int (σ.ins), .int (nI (σ.sc)), .int (nI (σ.ec)), .int (nI (σ.en)), .int (σ.tr), .int (nI (σ.lo)), .int (σ.wr), .int (nI (σ.due))])) := by rw [ew15]; exact hv_up_s
              refine lv_iload hx hb d_Model_value_125 (lv_at hl 0 rfl) ?_
              refine lv_if_eq (tgt := 135) hx hb d_Model_value_127 (by decide) (fun c127 => ?_) (fun c127 => ?_)
              · exact absurd c127 (by decide)
              · refine lv_iload hx hb d_Model_value_130 (lv_at hl 2 rfl) ?_
                refine gk_if_ge (x := 6 * i + gq) (tgt := 137) hx hb d_Model_value_132 (by decide) (by omega) ?_
                refine lv_iload hx hb d_Model_value_137 (lv_at hl 8 rfl) ?_
                refine lv_iconst (v := (-1)) hx hb d_Model_value_139 (by decide) ?_
                refine lv_icmp_ne (tgt := 154) hx hb d_Model_value_140 (by decide) (fun c140 => ?_) (fun c140 => ?_)
                · refine lv_iload hx hb d_Model_value_154 (lv_at hl 8 rfl) ?_
                  refine lv_bipush (v := (-2)) hx hb d_Model_value_156 (by decide) ?_
                  refine lv_icmp_ne (tgt := 171) hx hb d_Model_value_158 (by decide) (fun c158 => ?_) (fun c158 => ?_)
                  · exact absurd c91 c158
                  · refine lv_aload_n hx hb d_Model_value_161 rfl (lv_at hl 4 rfl) ?_
                    refine va_get (D := D) (ci := 7) (v := .ref (K 10)) (C := R_Model) (T := F_Model) (N := 25) hx hb hts i_Model hown hK (hv_one hP h16) 0 rfl rfl 10 (by decide) (hts _ k_Model_38) (fun _ h9 => h9) rfl d_Model_value_162 ?_
                    refine lv_iload hx hb d_Model_value_165 (lv_at hl 2 rfl) ?_
                    have h17 : w15 (K 10) = some (.inl (ca 3, 3840, .inr (.inl B.values))) := hM.1.2 10 (by decide)
                    refine va_lald hx hb hK (hv_one hP h17) 0 3 rfl rfl (vp_in_nI (n := 6 * i + gq) (by omega) (by omega)) d_Model_value_167 ?_
                    rw [nI_clamp (n := 6 * i + gq) (by omega)]
                    refine lv_goto (tgt := 199) hx hb d_Model_value_168 (by decide) ?_
                    exact hv_lret (v := B.values (6 * i + gq)) hQ hx hb hr hZ hS hP hlocks d_Model_value_199 (mRv.of (r' := (0, pr.2.2.1)) (by rw [x_value, hf]; dsimp only; rw [hgl]; dsimp only; rw [x_val, if_neg c71, if_pos c91]) (fun _ => hp3) hM (hRel.thr 0) rfl)
                · exact absurd c140 c71
        · refine lv_iload hx hb d_Model_value_74 (lv_at hl 2 rfl) ?_
          refine gk_if_lt (x := i) (tgt := 83) hx hb d_Model_value_76 (by decide) (by omega) ?_
          refine lv_iconst (v := 1) hx hb d_Model_value_79 (by decide) ?_
          refine lv_goto (tgt := 109) hx hb d_Model_value_80 (by decide) ?_
          refine lv_istore (lv' := [(8, .int 1), (7, .int 0), (6, .int (nI (6 * i + gq))), (5, .int (nI i)), (0, .ref (K 0)), (1, .int k), (2, .int n), (3, .int y), (4, .int wh)]) hx hb d_Model_value_109 hl (by decide) rfl (fun ls hl => ?_)
          refine lv_aload_n hx hb d_Model_value_111 rfl (lv_at hl 4 rfl) ?_
          refine lv_iload hx hb d_Model_value_112 (lv_at hl 0 rfl) ?_
          refine lv_if_eq (tgt := 121) hx hb d_Model_value_114 (by decide) (fun c114 => ?_) (fun c114 => ?_)
          · exact absurd c114 (by decide)
          · refine lv_iconst (v := 0) hx hb d_Model_value_117 (by decide) ?_
            refine lv_goto (tgt := 122) hx hb d_Model_value_118 (by decide) ?_
            refine hv_put (D := D) (ci := 7) (v := .int 0) (ty := .int) (C := R_Model) (T := F_Model) (N := 25) hx hb hts i_Model t_Model t_Model_ok n_Model hown hK hP hS h1 rfl 0 (by decide) (hts _ k_Model_51) (fun _ h9 => h9) rfl (by decide +kernel) rfl rfl (Nat.le_of_ble_eq_true rfl) d_Model_value_122 (fun H locs hP hS => ?_)
            obtain ⟨w18, ew18⟩ : ∃ z9 : hv_W, z9 = va_up w (K 0) (some (.inr (7, [.int 0, .ref (K 1), .ref (K 2), .ref (K 3), .ref (K 4), .ref (K 5), .ref (K 6), .ref (K 7), .ref (K 8), .ref (K 9), .ref (K 10), .ref (K 11), .ref (K 12), .int (nI (σ.tape.length)), .ref (K 13), .int (σ.err), .int (σ.off), .int (σ.ins), .int (nI (σ.sc)), .int (nI (σ.ec)), .int (nI (σ.en)), .int (σ.tr), .int (nI (σ.lo)), .int (σ.wr), .int (nI (σ.due))]))) := ⟨_, rfl⟩
            have hP : hv_P D classes s0.heap.size w18 H := by rw [ew18]; exact hP
            have hM : mK ca K w0 ((mAo t9 k9 p9 σ).sThrown 0) B w18 := by rw [ew18]; exact hM.put 0 (by decide) rfl
            have h19 : w18 (K 0) = some (.inr (7, [.int 0, .ref (K 1), .ref (K 2), .ref (K 3), .ref (K 4), .ref (K 5), .ref (K 6), .ref (K 7), .ref (K 8), .ref (K 9), .ref (K 10), .ref (K 11), .ref (K 12), .int (nI (σ.tape.length)), .ref (K 13), .int (σ.err), .int (σ.off), .int (σ.ins), .int (nI (σ.sc)), .int (nI (σ.ec)), .int (nI (σ.en)), .int (σ.tr), .int (nI (σ.lo)), .int (σ.wr), .int (nI (σ.due))])) := by rw [ew18]; exact hv_up_s
            refine lv_iload hx hb d_Model_value_125 (lv_at hl 0 rfl) ?_
            refine lv_if_eq (tgt := 135) hx hb d_Model_value_127 (by decide) (fun c127 => ?_) (fun c127 => ?_)
            · exact absurd c127 (by decide)
            · refine lv_iload hx hb d_Model_value_130 (lv_at hl 2 rfl) ?_
              refine gk_if_ge (x := 6 * i + gq) (tgt := 137) hx hb d_Model_value_132 (by decide) (by omega) ?_
              refine lv_iload hx hb d_Model_value_137 (lv_at hl 8 rfl) ?_
              refine lv_iconst (v := (-1)) hx hb d_Model_value_139 (by decide) ?_
              refine lv_icmp_ne (tgt := 154) hx hb d_Model_value_140 (by decide) (fun c140 => ?_) (fun c140 => ?_)
              · exact absurd c71 c140
              · refine lv_aload_n hx hb d_Model_value_143 rfl (lv_at hl 4 rfl) ?_
                refine va_get (D := D) (ci := 7) (v := .ref (K 9)) (C := R_Model) (T := F_Model) (N := 25) hx hb hts i_Model hown hK (hv_one hP h19) 0 rfl rfl 9 (by decide) (hts _ k_Model_35) (fun _ h9 => h9) rfl d_Model_value_144 ?_
                refine lv_iload hx hb d_Model_value_147 (lv_at hl 2 rfl) ?_
                have h20 : w18 (K 9) = some (.inl (ca 0, 3840, .inl B.kinds)) := hM.1.2 9 (by decide)
                refine va_iald hx hb hK (hv_one hP h20) 0 0 rfl rfl (vp_in_nI (n := 6 * i + gq) (by omega) (by omega)) d_Model_value_149 ?_
                rw [nI_clamp (n := 6 * i + gq) (by omega)]
                refine lv_topi (fun v9 e9 => ?_)
                have e9 : v9 = pr.2.1 := e9.trans (hp2)
                subst e9
                show W _ _ _ _ _ _ _ _ _ _ _ _ _ _ _ (F0 m 150 ls [.int pr.2.1])
                refine lv_i2l (v := pr.2.1.toInt64) hx hb d_Model_value_150 rfl ?_
                refine lv_goto (tgt := 199) hx hb d_Model_value_151 (by decide) ?_
                exact hv_lret (v := pr.2.1.toInt64) hQ hx hb hr hZ hS hP hlocks d_Model_value_199 (mRv.of (r' := (0, pr.2.1.toInt64)) (by rw [x_value, hf]; dsimp only; rw [hgl]; dsimp only; rw [x_val, if_pos c71]) (fun _ => rfl) hM (hRel.thr 0) rfl)
      · have hk3 : pr.2.1 = 3 := c39
        have hv3 := hwp.2.2.1 hk3
        refine lv_iload hx hb d_Model_value_42 (lv_at hl 6 rfl) ?_
        refine lv_if_lt (tgt := 65) hx hb d_Model_value_44 (by decide) (fun c44 => ?_) (fun c44 => ?_)
        · refine lv_iconst (v := 0) hx hb d_Model_value_65 (by decide) ?_
          refine lv_istore (lv' := [(7, .int 0), (6, .int (nI (6 * i + gq))), (5, .int (nI i)), (0, .ref (K 0)), (1, .int k), (2, .int n), (3, .int y), (4, .int wh)]) hx hb d_Model_value_66 hl (by decide) rfl (fun ls hl => ?_)
          refine lv_iload hx hb d_Model_value_68 (lv_at hl 7 rfl) ?_
          refine lv_iconst (v := (-1)) hx hb d_Model_value_70 (by decide) ?_
          refine lv_icmp_ne (tgt := 87) hx hb d_Model_value_71 (by decide) (fun c71 => ?_) (fun c71 => ?_)
          · refine lv_iload hx hb d_Model_value_87 (lv_at hl 7 rfl) ?_
            refine lv_bipush (v := (-2)) hx hb d_Model_value_89 (by decide) ?_
            refine lv_icmp_ne (tgt := 107) hx hb d_Model_value_91 (by decide) (fun c91 => ?_) (fun c91 => ?_)
            · refine lv_iload hx hb d_Model_value_107 (lv_at hl 0 rfl) ?_
              refine lv_istore (lv' := [(8, .int 0), (7, .int 0), (6, .int (nI (6 * i + gq))), (5, .int (nI i)), (0, .ref (K 0)), (1, .int k), (2, .int n), (3, .int y), (4, .int wh)]) hx hb d_Model_value_109 hl (by decide) rfl (fun ls hl => ?_)
              refine lv_aload_n hx hb d_Model_value_111 rfl (lv_at hl 4 rfl) ?_
              refine lv_iload hx hb d_Model_value_112 (lv_at hl 0 rfl) ?_
              refine lv_if_eq (tgt := 121) hx hb d_Model_value_114 (by decide) (fun c114 => ?_) (fun c114 => ?_)
              · refine lv_iconst (v := 1) hx hb d_Model_value_121 (by decide) ?_
                refine hv_put (D := D) (ci := 7) (v := .int 1) (ty := .int) (C := R_Model) (T := F_Model) (N := 25) hx hb hts i_Model t_Model t_Model_ok n_Model hown hK hP hS h1 rfl 0 (by decide) (hts _ k_Model_51) (fun _ h9 => h9) rfl (by decide +kernel) rfl rfl (Nat.le_of_ble_eq_true rfl) d_Model_value_122 (fun H locs hP hS => ?_)
                obtain ⟨w21, ew21⟩ : ∃ z9 : hv_W, z9 = va_up w (K 0) (some (.inr (7, [.int 1, .ref (K 1), .ref (K 2), .ref (K 3), .ref (K 4), .ref (K 5), .ref (K 6), .ref (K 7), .ref (K 8), .ref (K 9), .ref (K 10), .ref (K 11), .ref (K 12), .int (nI (σ.tape.length)), .ref (K 13), .int (σ.err), .int (σ.off), .int (σ.ins), .int (nI (σ.sc)), .int (nI (σ.ec)), .int (nI (σ.en)), .int (σ.tr), .int (nI (σ.lo)), .int (σ.wr), .int (nI (σ.due))]))) := ⟨_, rfl⟩
                have hP : hv_P D classes s0.heap.size w21 H := by rw [ew21]; exact hP
                have hM : mK ca K w0 ((mAo t9 k9 p9 σ).sThrown 1) B w21 := by rw [ew21]; exact hM.put 0 (by decide) rfl
                have h22 : w21 (K 0) = some (.inr (7, [.int 1, .ref (K 1), .ref (K 2), .ref (K 3), .ref (K 4), .ref (K 5), .ref (K 6), .ref (K 7), .ref (K 8), .ref (K 9), .ref (K 10), .ref (K 11), .ref (K 12), .int (nI (σ.tape.length)), .ref (K 13), .int (σ.err), .int (σ.off), .int (σ.ins), .int (nI (σ.sc)), .int (nI (σ.ec)), .int (nI (σ.en)), .int (σ.tr), .int (nI (σ.lo)), .int (σ.wr), .int (nI (σ.due))])) := by rw [ew21]; exact hv_up_s
                refine lv_iload hx hb d_Model_value_125 (lv_at hl 0 rfl) ?_
                refine lv_if_eq (tgt := 135) hx hb d_Model_value_127 (by decide) (fun c127 => ?_) (fun c127 => ?_)
                · refine lv_lconst (v := 0) hx hb d_Model_value_135 (by decide) ?_
                  exact hv_lret (v := 0) hQ hx hb hr hZ hS hP hlocks d_Model_value_136 (mRv.of (r' := (1, 0)) (by rw [x_value, hf]; dsimp only; rw [hgl]; dsimp only; rw [x_val, if_neg c71, if_neg c91, if_pos (Or.inl c44)]) (fun z9 => absurd z9 (show ¬ (1 : Nat) = 0 by decide)) hM (hRel.thr 1) rfl)
                · exact absurd c127 (by decide)
              · exact absurd c114 (by decide)
            · refine lv_iload hx hb d_Model_value_94 (lv_at hl 1 rfl) ?_
              refine gk_if_lt (x := 6 * i + gq) (tgt := 103) hx hb d_Model_value_96 (by decide) (by omega) ?_
              refine lv_iconst (v := 1) hx hb d_Model_value_99 (by decide) ?_
              refine lv_goto (tgt := 109) hx hb d_Model_value_100 (by decide) ?_
              refine lv_istore (lv' := [(8, .int 1), (7, .int 0), (6, .int (nI (6 * i + gq))), (5, .int (nI i)), (0, .ref (K 0)), (1, .int k), (2, .int n), (3, .int y), (4, .int wh)]) hx hb d_Model_value_109 hl (by decide) rfl (fun ls hl => ?_)
              refine lv_aload_n hx hb d_Model_value_111 rfl (lv_at hl 4 rfl) ?_
              refine lv_iload hx hb d_Model_value_112 (lv_at hl 0 rfl) ?_
              refine lv_if_eq (tgt := 121) hx hb d_Model_value_114 (by decide) (fun c114 => ?_) (fun c114 => ?_)
              · exact absurd c114 (by decide)
              · refine lv_iconst (v := 0) hx hb d_Model_value_117 (by decide) ?_
                refine lv_goto (tgt := 122) hx hb d_Model_value_118 (by decide) ?_
                refine hv_put (D := D) (ci := 7) (v := .int 0) (ty := .int) (C := R_Model) (T := F_Model) (N := 25) hx hb hts i_Model t_Model t_Model_ok n_Model hown hK hP hS h1 rfl 0 (by decide) (hts _ k_Model_51) (fun _ h9 => h9) rfl (by decide +kernel) rfl rfl (Nat.le_of_ble_eq_true rfl) d_Model_value_122 (fun H locs hP hS => ?_)
                obtain ⟨w23, ew23⟩ : ∃ z9 : hv_W, z9 = va_up w (K 0) (some (.inr (7, [.int 0, .ref (K 1), .ref (K 2), .ref (K 3), .ref (K 4), .ref (K 5), .ref (K 6), .ref (K 7), .ref (K 8), .ref (K 9), .ref (K 10), .ref (K 11), .ref (K 12), .int (nI (σ.tape.length)), .ref (K 13), .int (σ.err), .int (σ.off), .int (σ.ins), .int (nI (σ.sc)), .int (nI (σ.ec)), .int (nI (σ.en)), .int (σ.tr), .int (nI (σ.lo)), .int (σ.wr), .int (nI (σ.due))]))) := ⟨_, rfl⟩
                have hP : hv_P D classes s0.heap.size w23 H := by rw [ew23]; exact hP
                have hM : mK ca K w0 ((mAo t9 k9 p9 σ).sThrown 0) B w23 := by rw [ew23]; exact hM.put 0 (by decide) rfl
                have h24 : w23 (K 0) = some (.inr (7, [.int 0, .ref (K 1), .ref (K 2), .ref (K 3), .ref (K 4), .ref (K 5), .ref (K 6), .ref (K 7), .ref (K 8), .ref (K 9), .ref (K 10), .ref (K 11), .ref (K 12), .int (nI (σ.tape.length)), .ref (K 13), .int (σ.err), .int (σ.off), .int (σ.ins), .int (nI (σ.sc)), .int (nI (σ.ec)), .int (nI (σ.en)), .int (σ.tr), .int (nI (σ.lo)), .int (σ.wr), .int (nI (σ.due))])) := by rw [ew23]; exact hv_up_s
                refine lv_iload hx hb d_Model_value_125 (lv_at hl 0 rfl) ?_
                refine lv_if_eq (tgt := 135) hx hb d_Model_value_127 (by decide) (fun c127 => ?_) (fun c127 => ?_)
                · exact absurd c127 (by decide)
                · refine lv_iload hx hb d_Model_value_130 (lv_at hl 2 rfl) ?_
                  refine gk_if_ge (x := 6 * i + gq) (tgt := 137) hx hb d_Model_value_132 (by decide) (by omega) ?_
                  refine lv_iload hx hb d_Model_value_137 (lv_at hl 8 rfl) ?_
                  refine lv_iconst (v := (-1)) hx hb d_Model_value_139 (by decide) ?_
                  refine lv_icmp_ne (tgt := 154) hx hb d_Model_value_140 (by decide) (fun c140 => ?_) (fun c140 => ?_)
                  · refine lv_iload hx hb d_Model_value_154 (lv_at hl 8 rfl) ?_
                    refine lv_bipush (v := (-2)) hx hb d_Model_value_156 (by decide) ?_
                    refine lv_icmp_ne (tgt := 171) hx hb d_Model_value_158 (by decide) (fun c158 => ?_) (fun c158 => ?_)
                    · exact absurd c91 c158
                    · refine lv_aload_n hx hb d_Model_value_161 rfl (lv_at hl 4 rfl) ?_
                      refine va_get (D := D) (ci := 7) (v := .ref (K 10)) (C := R_Model) (T := F_Model) (N := 25) hx hb hts i_Model hown hK (hv_one hP h24) 0 rfl rfl 10 (by decide) (hts _ k_Model_38) (fun _ h9 => h9) rfl d_Model_value_162 ?_
                      refine lv_iload hx hb d_Model_value_165 (lv_at hl 2 rfl) ?_
                      have h25 : w23 (K 10) = some (.inl (ca 3, 3840, .inr (.inl B.values))) := hM.1.2 10 (by decide)
                      refine va_lald hx hb hK (hv_one hP h25) 0 3 rfl rfl (vp_in_nI (n := 6 * i + gq) (by omega) (by omega)) d_Model_value_167 ?_
                      rw [nI_clamp (n := 6 * i + gq) (by omega)]
                      refine lv_goto (tgt := 199) hx hb d_Model_value_168 (by decide) ?_
                      exact hv_lret (v := B.values (6 * i + gq)) hQ hx hb hr hZ hS hP hlocks d_Model_value_199 (mRv.of (r' := (0, pr.2.2.1)) (by rw [x_value, hf]; dsimp only; rw [hgl]; dsimp only; rw [x_val, if_neg c71, if_pos c91]) (fun _ => hp3) hM (hRel.thr 0) rfl)
                  · exact absurd c140 c71
          · refine lv_iload hx hb d_Model_value_74 (lv_at hl 2 rfl) ?_
            refine gk_if_lt (x := i) (tgt := 83) hx hb d_Model_value_76 (by decide) (by omega) ?_
            refine lv_iconst (v := 1) hx hb d_Model_value_79 (by decide) ?_
            refine lv_goto (tgt := 109) hx hb d_Model_value_80 (by decide) ?_
            refine lv_istore (lv' := [(8, .int 1), (7, .int 0), (6, .int (nI (6 * i + gq))), (5, .int (nI i)), (0, .ref (K 0)), (1, .int k), (2, .int n), (3, .int y), (4, .int wh)]) hx hb d_Model_value_109 hl (by decide) rfl (fun ls hl => ?_)
            refine lv_aload_n hx hb d_Model_value_111 rfl (lv_at hl 4 rfl) ?_
            refine lv_iload hx hb d_Model_value_112 (lv_at hl 0 rfl) ?_
            refine lv_if_eq (tgt := 121) hx hb d_Model_value_114 (by decide) (fun c114 => ?_) (fun c114 => ?_)
            · exact absurd c114 (by decide)
            · refine lv_iconst (v := 0) hx hb d_Model_value_117 (by decide) ?_
              refine lv_goto (tgt := 122) hx hb d_Model_value_118 (by decide) ?_
              refine hv_put (D := D) (ci := 7) (v := .int 0) (ty := .int) (C := R_Model) (T := F_Model) (N := 25) hx hb hts i_Model t_Model t_Model_ok n_Model hown hK hP hS h1 rfl 0 (by decide) (hts _ k_Model_51) (fun _ h9 => h9) rfl (by decide +kernel) rfl rfl (Nat.le_of_ble_eq_true rfl) d_Model_value_122 (fun H locs hP hS => ?_)
              obtain ⟨w26, ew26⟩ : ∃ z9 : hv_W, z9 = va_up w (K 0) (some (.inr (7, [.int 0, .ref (K 1), .ref (K 2), .ref (K 3), .ref (K 4), .ref (K 5), .ref (K 6), .ref (K 7), .ref (K 8), .ref (K 9), .ref (K 10), .ref (K 11), .ref (K 12), .int (nI (σ.tape.length)), .ref (K 13), .int (σ.err), .int (σ.off), .int (σ.ins), .int (nI (σ.sc)), .int (nI (σ.ec)), .int (nI (σ.en)), .int (σ.tr), .int (nI (σ.lo)), .int (σ.wr), .int (nI (σ.due))]))) := ⟨_, rfl⟩
              have hP : hv_P D classes s0.heap.size w26 H := by rw [ew26]; exact hP
              have hM : mK ca K w0 ((mAo t9 k9 p9 σ).sThrown 0) B w26 := by rw [ew26]; exact hM.put 0 (by decide) rfl
              have h27 : w26 (K 0) = some (.inr (7, [.int 0, .ref (K 1), .ref (K 2), .ref (K 3), .ref (K 4), .ref (K 5), .ref (K 6), .ref (K 7), .ref (K 8), .ref (K 9), .ref (K 10), .ref (K 11), .ref (K 12), .int (nI (σ.tape.length)), .ref (K 13), .int (σ.err), .int (σ.off), .int (σ.ins), .int (nI (σ.sc)), .int (nI (σ.ec)), .int (nI (σ.en)), .int (σ.tr), .int (nI (σ.lo)), .int (σ.wr), .int (nI (σ.due))])) := by rw [ew26]; exact hv_up_s
              refine lv_iload hx hb d_Model_value_125 (lv_at hl 0 rfl) ?_
              refine lv_if_eq (tgt := 135) hx hb d_Model_value_127 (by decide) (fun c127 => ?_) (fun c127 => ?_)
              · exact absurd c127 (by decide)
              · refine lv_iload hx hb d_Model_value_130 (lv_at hl 2 rfl) ?_
                refine gk_if_ge (x := 6 * i + gq) (tgt := 137) hx hb d_Model_value_132 (by decide) (by omega) ?_
                refine lv_iload hx hb d_Model_value_137 (lv_at hl 8 rfl) ?_
                refine lv_iconst (v := (-1)) hx hb d_Model_value_139 (by decide) ?_
                refine lv_icmp_ne (tgt := 154) hx hb d_Model_value_140 (by decide) (fun c140 => ?_) (fun c140 => ?_)
                · exact absurd c71 c140
                · refine lv_aload_n hx hb d_Model_value_143 rfl (lv_at hl 4 rfl) ?_
                  refine va_get (D := D) (ci := 7) (v := .ref (K 9)) (C := R_Model) (T := F_Model) (N := 25) hx hb hts i_Model hown hK (hv_one hP h27) 0 rfl rfl 9 (by decide) (hts _ k_Model_35) (fun _ h9 => h9) rfl d_Model_value_144 ?_
                  refine lv_iload hx hb d_Model_value_147 (lv_at hl 2 rfl) ?_
                  have h28 : w26 (K 9) = some (.inl (ca 0, 3840, .inl B.kinds)) := hM.1.2 9 (by decide)
                  refine va_iald hx hb hK (hv_one hP h28) 0 0 rfl rfl (vp_in_nI (n := 6 * i + gq) (by omega) (by omega)) d_Model_value_149 ?_
                  rw [nI_clamp (n := 6 * i + gq) (by omega)]
                  refine lv_topi (fun v9 e9 => ?_)
                  have e9 : v9 = pr.2.1 := e9.trans (hp2)
                  subst e9
                  show W _ _ _ _ _ _ _ _ _ _ _ _ _ _ _ (F0 m 150 ls [.int pr.2.1])
                  refine lv_i2l (v := pr.2.1.toInt64) hx hb d_Model_value_150 rfl ?_
                  refine lv_goto (tgt := 199) hx hb d_Model_value_151 (by decide) ?_
                  exact hv_lret (v := pr.2.1.toInt64) hQ hx hb hr hZ hS hP hlocks d_Model_value_199 (mRv.of (r' := (0, pr.2.1.toInt64)) (by rw [x_value, hf]; dsimp only; rw [hgl]; dsimp only; rw [x_val, if_pos c71]) (fun _ => rfl) hM (hRel.thr 0) rfl)
        · refine lv_iload hx hb d_Model_value_47 (lv_at hl 6 rfl) ?_
          refine lv_i2l (v := wh.toInt64) hx hb d_Model_value_49 rfl ?_
          refine lv_aload_n hx hb d_Model_value_50 rfl (lv_at hl 2 rfl) ?_
          refine va_get (D := D) (ci := 7) (v := .ref (K 10)) (C := R_Model) (T := F_Model) (N := 25) hx hb hts i_Model hown hK (hv_one hP h1) 0 rfl rfl 10 (by decide) (hts _ k_Model_38) (fun _ h9 => h9) rfl d_Model_value_51 ?_
          refine lv_iload hx hb d_Model_value_54 (lv_at hl 0 rfl) ?_
          have h29 : w (K 10) = some (.inl (ca 3, 3840, .inr (.inl B.values))) := hM.1.2 10 (by decide)
          refine va_lald hx hb hK (hv_one hP h29) 0 3 rfl rfl (vp_in_nI (n := 6 * i + gq) (by omega) (by omega)) d_Model_value_56 ?_
          rw [nI_clamp (n := 6 * i + gq) (by omega)]
          refine W.lcmp hx hb d_Model_value_57 ?_
          refine lv_if_ge (tgt := 65) hx hb d_Model_value_58 (by decide) (fun c58 => ?_) (fun c58 => ?_)
          · have hge : nI pr.2.2.2.length ≤ wh := x_vge hp3 hv3 c58
            refine lv_iconst (v := 0) hx hb d_Model_value_65 (by decide) ?_
            refine lv_istore (lv' := [(7, .int 0), (6, .int (nI (6 * i + gq))), (5, .int (nI i)), (0, .ref (K 0)), (1, .int k), (2, .int n), (3, .int y), (4, .int wh)]) hx hb d_Model_value_66 hl (by decide) rfl (fun ls hl => ?_)
            refine lv_iload hx hb d_Model_value_68 (lv_at hl 7 rfl) ?_
            refine lv_iconst (v := (-1)) hx hb d_Model_value_70 (by decide) ?_
            refine lv_icmp_ne (tgt := 87) hx hb d_Model_value_71 (by decide) (fun c71 => ?_) (fun c71 => ?_)
            · refine lv_iload hx hb d_Model_value_87 (lv_at hl 7 rfl) ?_
              refine lv_bipush (v := (-2)) hx hb d_Model_value_89 (by decide) ?_
              refine lv_icmp_ne (tgt := 107) hx hb d_Model_value_91 (by decide) (fun c91 => ?_) (fun c91 => ?_)
              · refine lv_iload hx hb d_Model_value_107 (lv_at hl 0 rfl) ?_
                refine lv_istore (lv' := [(8, .int 0), (7, .int 0), (6, .int (nI (6 * i + gq))), (5, .int (nI i)), (0, .ref (K 0)), (1, .int k), (2, .int n), (3, .int y), (4, .int wh)]) hx hb d_Model_value_109 hl (by decide) rfl (fun ls hl => ?_)
                refine lv_aload_n hx hb d_Model_value_111 rfl (lv_at hl 4 rfl) ?_
                refine lv_iload hx hb d_Model_value_112 (lv_at hl 0 rfl) ?_
                refine lv_if_eq (tgt := 121) hx hb d_Model_value_114 (by decide) (fun c114 => ?_) (fun c114 => ?_)
                · refine lv_iconst (v := 1) hx hb d_Model_value_121 (by decide) ?_
                  refine hv_put (D := D) (ci := 7) (v := .int 1) (ty := .int) (C := R_Model) (T := F_Model) (N := 25) hx hb hts i_Model t_Model t_Model_ok n_Model hown hK hP hS h1 rfl 0 (by decide) (hts _ k_Model_51) (fun _ h9 => h9) rfl (by decide +kernel) rfl rfl (Nat.le_of_ble_eq_true rfl) d_Model_value_122 (fun H locs hP hS => ?_)
                  obtain ⟨w30, ew30⟩ : ∃ z9 : hv_W, z9 = va_up w (K 0) (some (.inr (7, [.int 1, .ref (K 1), .ref (K 2), .ref (K 3), .ref (K 4), .ref (K 5), .ref (K 6), .ref (K 7), .ref (K 8), .ref (K 9), .ref (K 10), .ref (K 11), .ref (K 12), .int (nI (σ.tape.length)), .ref (K 13), .int (σ.err), .int (σ.off), .int (σ.ins), .int (nI (σ.sc)), .int (nI (σ.ec)), .int (nI (σ.en)), .int (σ.tr), .int (nI (σ.lo)), .int (σ.wr), .int (nI (σ.due))]))) := ⟨_, rfl⟩
                  have hP : hv_P D classes s0.heap.size w30 H := by rw [ew30]; exact hP
                  have hM : mK ca K w0 ((mAo t9 k9 p9 σ).sThrown 1) B w30 := by rw [ew30]; exact hM.put 0 (by decide) rfl
                  have h31 : w30 (K 0) = some (.inr (7, [.int 1, .ref (K 1), .ref (K 2), .ref (K 3), .ref (K 4), .ref (K 5), .ref (K 6), .ref (K 7), .ref (K 8), .ref (K 9), .ref (K 10), .ref (K 11), .ref (K 12), .int (nI (σ.tape.length)), .ref (K 13), .int (σ.err), .int (σ.off), .int (σ.ins), .int (nI (σ.sc)), .int (nI (σ.ec)), .int (nI (σ.en)), .int (σ.tr), .int (nI (σ.lo)), .int (σ.wr), .int (nI (σ.due))])) := by rw [ew30]; exact hv_up_s
                  refine lv_iload hx hb d_Model_value_125 (lv_at hl 0 rfl) ?_
                  refine lv_if_eq (tgt := 135) hx hb d_Model_value_127 (by decide) (fun c127 => ?_) (fun c127 => ?_)
                  · refine lv_lconst (v := 0) hx hb d_Model_value_135 (by decide) ?_
                    exact hv_lret (v := 0) hQ hx hb hr hZ hS hP hlocks d_Model_value_136 (mRv.of (r' := (1, 0)) (by rw [x_value, hf]; dsimp only; rw [hgl]; dsimp only; rw [x_val, if_neg c71, if_neg c91, if_pos (Or.inr hge)]) (fun z9 => absurd z9 (show ¬ (1 : Nat) = 0 by decide)) hM (hRel.thr 1) rfl)
                  · exact absurd c127 (by decide)
                · exact absurd c114 (by decide)
              · refine lv_iload hx hb d_Model_value_94 (lv_at hl 1 rfl) ?_
                refine gk_if_lt (x := 6 * i + gq) (tgt := 103) hx hb d_Model_value_96 (by decide) (by omega) ?_
                refine lv_iconst (v := 1) hx hb d_Model_value_99 (by decide) ?_
                refine lv_goto (tgt := 109) hx hb d_Model_value_100 (by decide) ?_
                refine lv_istore (lv' := [(8, .int 1), (7, .int 0), (6, .int (nI (6 * i + gq))), (5, .int (nI i)), (0, .ref (K 0)), (1, .int k), (2, .int n), (3, .int y), (4, .int wh)]) hx hb d_Model_value_109 hl (by decide) rfl (fun ls hl => ?_)
                refine lv_aload_n hx hb d_Model_value_111 rfl (lv_at hl 4 rfl) ?_
                refine lv_iload hx hb d_Model_value_112 (lv_at hl 0 rfl) ?_
                refine lv_if_eq (tgt := 121) hx hb d_Model_value_114 (by decide) (fun c114 => ?_) (fun c114 => ?_)
                · exact absurd c114 (by decide)
                · refine lv_iconst (v := 0) hx hb d_Model_value_117 (by decide) ?_
                  refine lv_goto (tgt := 122) hx hb d_Model_value_118 (by decide) ?_
                  refine hv_put (D := D) (ci := 7) (v := .int 0) (ty := .int) (C := R_Model) (T := F_Model) (N := 25) hx hb hts i_Model t_Model t_Model_ok n_Model hown hK hP hS h1 rfl 0 (by decide) (hts _ k_Model_51) (fun _ h9 => h9) rfl (by decide +kernel) rfl rfl (Nat.le_of_ble_eq_true rfl) d_Model_value_122 (fun H locs hP hS => ?_)
                  obtain ⟨w32, ew32⟩ : ∃ z9 : hv_W, z9 = va_up w (K 0) (some (.inr (7, [.int 0, .ref (K 1), .ref (K 2), .ref (K 3), .ref (K 4), .ref (K 5), .ref (K 6), .ref (K 7), .ref (K 8), .ref (K 9), .ref (K 10), .ref (K 11), .ref (K 12), .int (nI (σ.tape.length)), .ref (K 13), .int (σ.err), .int (σ.off), .int (σ.ins), .int (nI (σ.sc)), .int (nI (σ.ec)), .int (nI (σ.en)), .int (σ.tr), .int (nI (σ.lo)), .int (σ.wr), .int (nI (σ.due))]))) := ⟨_, rfl⟩
                  have hP : hv_P D classes s0.heap.size w32 H := by rw [ew32]; exact hP
                  have hM : mK ca K w0 ((mAo t9 k9 p9 σ).sThrown 0) B w32 := by rw [ew32]; exact hM.put 0 (by decide) rfl
                  have h33 : w32 (K 0) = some (.inr (7, [.int 0, .ref (K 1), .ref (K 2), .ref (K 3), .ref (K 4), .ref (K 5), .ref (K 6), .ref (K 7), .ref (K 8), .ref (K 9), .ref (K 10), .ref (K 11), .ref (K 12), .int (nI (σ.tape.length)), .ref (K 13), .int (σ.err), .int (σ.off), .int (σ.ins), .int (nI (σ.sc)), .int (nI (σ.ec)), .int (nI (σ.en)), .int (σ.tr), .int (nI (σ.lo)), .int (σ.wr), .int (nI (σ.due))])) := by rw [ew32]; exact hv_up_s
                  refine lv_iload hx hb d_Model_value_125 (lv_at hl 0 rfl) ?_
                  refine lv_if_eq (tgt := 135) hx hb d_Model_value_127 (by decide) (fun c127 => ?_) (fun c127 => ?_)
                  · exact absurd c127 (by decide)
                  · refine lv_iload hx hb d_Model_value_130 (lv_at hl 2 rfl) ?_
                    refine gk_if_ge (x := 6 * i + gq) (tgt := 137) hx hb d_Model_value_132 (by decide) (by omega) ?_
                    refine lv_iload hx hb d_Model_value_137 (lv_at hl 8 rfl) ?_
                    refine lv_iconst (v := (-1)) hx hb d_Model_value_139 (by decide) ?_
                    refine lv_icmp_ne (tgt := 154) hx hb d_Model_value_140 (by decide) (fun c140 => ?_) (fun c140 => ?_)
                    · refine lv_iload hx hb d_Model_value_154 (lv_at hl 8 rfl) ?_
                      refine lv_bipush (v := (-2)) hx hb d_Model_value_156 (by decide) ?_
                      refine lv_icmp_ne (tgt := 171) hx hb d_Model_value_158 (by decide) (fun c158 => ?_) (fun c158 => ?_)
                      · exact absurd c91 c158
                      · refine lv_aload_n hx hb d_Model_value_161 rfl (lv_at hl 4 rfl) ?_
                        refine va_get (D := D) (ci := 7) (v := .ref (K 10)) (C := R_Model) (T := F_Model) (N := 25) hx hb hts i_Model hown hK (hv_one hP h33) 0 rfl rfl 10 (by decide) (hts _ k_Model_38) (fun _ h9 => h9) rfl d_Model_value_162 ?_
                        refine lv_iload hx hb d_Model_value_165 (lv_at hl 2 rfl) ?_
                        have h34 : w32 (K 10) = some (.inl (ca 3, 3840, .inr (.inl B.values))) := hM.1.2 10 (by decide)
                        refine va_lald hx hb hK (hv_one hP h34) 0 3 rfl rfl (vp_in_nI (n := 6 * i + gq) (by omega) (by omega)) d_Model_value_167 ?_
                        rw [nI_clamp (n := 6 * i + gq) (by omega)]
                        refine lv_goto (tgt := 199) hx hb d_Model_value_168 (by decide) ?_
                        exact hv_lret (v := B.values (6 * i + gq)) hQ hx hb hr hZ hS hP hlocks d_Model_value_199 (mRv.of (r' := (0, pr.2.2.1)) (by rw [x_value, hf]; dsimp only; rw [hgl]; dsimp only; rw [x_val, if_neg c71, if_pos c91]) (fun _ => hp3) hM (hRel.thr 0) rfl)
                    · exact absurd c140 c71
            · refine lv_iload hx hb d_Model_value_74 (lv_at hl 2 rfl) ?_
              refine gk_if_lt (x := i) (tgt := 83) hx hb d_Model_value_76 (by decide) (by omega) ?_
              refine lv_iconst (v := 1) hx hb d_Model_value_79 (by decide) ?_
              refine lv_goto (tgt := 109) hx hb d_Model_value_80 (by decide) ?_
              refine lv_istore (lv' := [(8, .int 1), (7, .int 0), (6, .int (nI (6 * i + gq))), (5, .int (nI i)), (0, .ref (K 0)), (1, .int k), (2, .int n), (3, .int y), (4, .int wh)]) hx hb d_Model_value_109 hl (by decide) rfl (fun ls hl => ?_)
              refine lv_aload_n hx hb d_Model_value_111 rfl (lv_at hl 4 rfl) ?_
              refine lv_iload hx hb d_Model_value_112 (lv_at hl 0 rfl) ?_
              refine lv_if_eq (tgt := 121) hx hb d_Model_value_114 (by decide) (fun c114 => ?_) (fun c114 => ?_)
              · exact absurd c114 (by decide)
              · refine lv_iconst (v := 0) hx hb d_Model_value_117 (by decide) ?_
                refine lv_goto (tgt := 122) hx hb d_Model_value_118 (by decide) ?_
                refine hv_put (D := D) (ci := 7) (v := .int 0) (ty := .int) (C := R_Model) (T := F_Model) (N := 25) hx hb hts i_Model t_Model t_Model_ok n_Model hown hK hP hS h1 rfl 0 (by decide) (hts _ k_Model_51) (fun _ h9 => h9) rfl (by decide +kernel) rfl rfl (Nat.le_of_ble_eq_true rfl) d_Model_value_122 (fun H locs hP hS => ?_)
                obtain ⟨w35, ew35⟩ : ∃ z9 : hv_W, z9 = va_up w (K 0) (some (.inr (7, [.int 0, .ref (K 1), .ref (K 2), .ref (K 3), .ref (K 4), .ref (K 5), .ref (K 6), .ref (K 7), .ref (K 8), .ref (K 9), .ref (K 10), .ref (K 11), .ref (K 12), .int (nI (σ.tape.length)), .ref (K 13), .int (σ.err), .int (σ.off), .int (σ.ins), .int (nI (σ.sc)), .int (nI (σ.ec)), .int (nI (σ.en)), .int (σ.tr), .int (nI (σ.lo)), .int (σ.wr), .int (nI (σ.due))]))) := ⟨_, rfl⟩
                have hP : hv_P D classes s0.heap.size w35 H := by rw [ew35]; exact hP
                have hM : mK ca K w0 ((mAo t9 k9 p9 σ).sThrown 0) B w35 := by rw [ew35]; exact hM.put 0 (by decide) rfl
                have h36 : w35 (K 0) = some (.inr (7, [.int 0, .ref (K 1), .ref (K 2), .ref (K 3), .ref (K 4), .ref (K 5), .ref (K 6), .ref (K 7), .ref (K 8), .ref (K 9), .ref (K 10), .ref (K 11), .ref (K 12), .int (nI (σ.tape.length)), .ref (K 13), .int (σ.err), .int (σ.off), .int (σ.ins), .int (nI (σ.sc)), .int (nI (σ.ec)), .int (nI (σ.en)), .int (σ.tr), .int (nI (σ.lo)), .int (σ.wr), .int (nI (σ.due))])) := by rw [ew35]; exact hv_up_s
                refine lv_iload hx hb d_Model_value_125 (lv_at hl 0 rfl) ?_
                refine lv_if_eq (tgt := 135) hx hb d_Model_value_127 (by decide) (fun c127 => ?_) (fun c127 => ?_)
                · exact absurd c127 (by decide)
                · refine lv_iload hx hb d_Model_value_130 (lv_at hl 2 rfl) ?_
                  refine gk_if_ge (x := 6 * i + gq) (tgt := 137) hx hb d_Model_value_132 (by decide) (by omega) ?_
                  refine lv_iload hx hb d_Model_value_137 (lv_at hl 8 rfl) ?_
                  refine lv_iconst (v := (-1)) hx hb d_Model_value_139 (by decide) ?_
                  refine lv_icmp_ne (tgt := 154) hx hb d_Model_value_140 (by decide) (fun c140 => ?_) (fun c140 => ?_)
                  · exact absurd c71 c140
                  · refine lv_aload_n hx hb d_Model_value_143 rfl (lv_at hl 4 rfl) ?_
                    refine va_get (D := D) (ci := 7) (v := .ref (K 9)) (C := R_Model) (T := F_Model) (N := 25) hx hb hts i_Model hown hK (hv_one hP h36) 0 rfl rfl 9 (by decide) (hts _ k_Model_35) (fun _ h9 => h9) rfl d_Model_value_144 ?_
                    refine lv_iload hx hb d_Model_value_147 (lv_at hl 2 rfl) ?_
                    have h37 : w35 (K 9) = some (.inl (ca 0, 3840, .inl B.kinds)) := hM.1.2 9 (by decide)
                    refine va_iald hx hb hK (hv_one hP h37) 0 0 rfl rfl (vp_in_nI (n := 6 * i + gq) (by omega) (by omega)) d_Model_value_149 ?_
                    rw [nI_clamp (n := 6 * i + gq) (by omega)]
                    refine lv_topi (fun v9 e9 => ?_)
                    have e9 : v9 = pr.2.1 := e9.trans (hp2)
                    subst e9
                    show W _ _ _ _ _ _ _ _ _ _ _ _ _ _ _ (F0 m 150 ls [.int pr.2.1])
                    refine lv_i2l (v := pr.2.1.toInt64) hx hb d_Model_value_150 rfl ?_
                    refine lv_goto (tgt := 199) hx hb d_Model_value_151 (by decide) ?_
                    exact hv_lret (v := pr.2.1.toInt64) hQ hx hb hr hZ hS hP hlocks d_Model_value_199 (mRv.of (r' := (0, pr.2.1.toInt64)) (by rw [x_value, hf]; dsimp only; rw [hgl]; dsimp only; rw [x_val, if_pos c71]) (fun _ => rfl) hM (hRel.thr 0) rfl)
          · have hlt : wh < nI pr.2.2.2.length := x_vlt hp3 hv3 c58
            obtain ⟨wn, hwn, hwe⟩ := vp_in_of (gk_in (N := pr.2.2.2.length) c44 (fun z => absurd hlt (Int32.not_lt.mpr z)) (by have := hwp.1; omega)) (by have := hwp.1; omega)
            have hwn24 : wn < 24 := Nat.lt_of_lt_of_le hwn hwp.1
            subst hwe
            refine lv_iconst (v := 1) hx hb d_Model_value_61 (by decide) ?_
            refine lv_goto (tgt := 66) hx hb d_Model_value_62 (by decide) ?_
            refine lv_istore (lv' := [(7, .int 1), (6, .int (nI (6 * i + gq))), (5, .int (nI i)), (0, .ref (K 0)), (1, .int k), (2, .int n), (3, .int y), (4, .int (nI wn))]) hx hb d_Model_value_66 hl (by decide) rfl (fun ls hl => ?_)
            refine lv_iload hx hb d_Model_value_68 (lv_at hl 7 rfl) ?_
            refine lv_iconst (v := (-1)) hx hb d_Model_value_70 (by decide) ?_
            refine lv_icmp_ne (tgt := 87) hx hb d_Model_value_71 (by decide) (fun c71 => ?_) (fun c71 => ?_)
            · refine lv_iload hx hb d_Model_value_87 (lv_at hl 7 rfl) ?_
              refine lv_bipush (v := (-2)) hx hb d_Model_value_89 (by decide) ?_
              refine lv_icmp_ne (tgt := 107) hx hb d_Model_value_91 (by decide) (fun c91 => ?_) (fun c91 => ?_)
              · refine lv_iload hx hb d_Model_value_107 (lv_at hl 0 rfl) ?_
                refine lv_istore (lv' := [(8, .int 1), (7, .int 1), (6, .int (nI (6 * i + gq))), (5, .int (nI i)), (0, .ref (K 0)), (1, .int k), (2, .int n), (3, .int y), (4, .int (nI wn))]) hx hb d_Model_value_109 hl (by decide) rfl (fun ls hl => ?_)
                refine lv_aload_n hx hb d_Model_value_111 rfl (lv_at hl 4 rfl) ?_
                refine lv_iload hx hb d_Model_value_112 (lv_at hl 0 rfl) ?_
                refine lv_if_eq (tgt := 121) hx hb d_Model_value_114 (by decide) (fun c114 => ?_) (fun c114 => ?_)
                · exact absurd c114 (by decide)
                · refine lv_iconst (v := 0) hx hb d_Model_value_117 (by decide) ?_
                  refine lv_goto (tgt := 122) hx hb d_Model_value_118 (by decide) ?_
                  refine hv_put (D := D) (ci := 7) (v := .int 0) (ty := .int) (C := R_Model) (T := F_Model) (N := 25) hx hb hts i_Model t_Model t_Model_ok n_Model hown hK hP hS h1 rfl 0 (by decide) (hts _ k_Model_51) (fun _ h9 => h9) rfl (by decide +kernel) rfl rfl (Nat.le_of_ble_eq_true rfl) d_Model_value_122 (fun H locs hP hS => ?_)
                  obtain ⟨w38, ew38⟩ : ∃ z9 : hv_W, z9 = va_up w (K 0) (some (.inr (7, [.int 0, .ref (K 1), .ref (K 2), .ref (K 3), .ref (K 4), .ref (K 5), .ref (K 6), .ref (K 7), .ref (K 8), .ref (K 9), .ref (K 10), .ref (K 11), .ref (K 12), .int (nI (σ.tape.length)), .ref (K 13), .int (σ.err), .int (σ.off), .int (σ.ins), .int (nI (σ.sc)), .int (nI (σ.ec)), .int (nI (σ.en)), .int (σ.tr), .int (nI (σ.lo)), .int (σ.wr), .int (nI (σ.due))]))) := ⟨_, rfl⟩
                  have hP : hv_P D classes s0.heap.size w38 H := by rw [ew38]; exact hP
                  have hM : mK ca K w0 ((mAo t9 k9 p9 σ).sThrown 0) B w38 := by rw [ew38]; exact hM.put 0 (by decide) rfl
                  have h39 : w38 (K 0) = some (.inr (7, [.int 0, .ref (K 1), .ref (K 2), .ref (K 3), .ref (K 4), .ref (K 5), .ref (K 6), .ref (K 7), .ref (K 8), .ref (K 9), .ref (K 10), .ref (K 11), .ref (K 12), .int (nI (σ.tape.length)), .ref (K 13), .int (σ.err), .int (σ.off), .int (σ.ins), .int (nI (σ.sc)), .int (nI (σ.ec)), .int (nI (σ.en)), .int (σ.tr), .int (nI (σ.lo)), .int (σ.wr), .int (nI (σ.due))])) := by rw [ew38]; exact hv_up_s
                  refine lv_iload hx hb d_Model_value_125 (lv_at hl 0 rfl) ?_
                  refine lv_if_eq (tgt := 135) hx hb d_Model_value_127 (by decide) (fun c127 => ?_) (fun c127 => ?_)
                  · exact absurd c127 (by decide)
                  · refine lv_iload hx hb d_Model_value_130 (lv_at hl 2 rfl) ?_
                    refine gk_if_ge (x := 6 * i + gq) (tgt := 137) hx hb d_Model_value_132 (by decide) (by omega) ?_
                    refine lv_iload hx hb d_Model_value_137 (lv_at hl 8 rfl) ?_
                    refine lv_iconst (v := (-1)) hx hb d_Model_value_139 (by decide) ?_
                    refine lv_icmp_ne (tgt := 154) hx hb d_Model_value_140 (by decide) (fun c140 => ?_) (fun c140 => ?_)
                    · refine lv_iload hx hb d_Model_value_154 (lv_at hl 8 rfl) ?_
                      refine lv_bipush (v := (-2)) hx hb d_Model_value_156 (by decide) ?_
                      refine lv_icmp_ne (tgt := 171) hx hb d_Model_value_158 (by decide) (fun c158 => ?_) (fun c158 => ?_)
                      · refine lv_aload_n hx hb d_Model_value_171 rfl (lv_at hl 4 rfl) ?_
                        refine va_get (D := D) (ci := 7) (v := .ref (K 11)) (C := R_Model) (T := F_Model) (N := 25) hx hb hts i_Model hown hK (hv_one hP h39) 0 rfl rfl 11 (by decide) (hts _ k_Model_42) (fun _ h9 => h9) rfl d_Model_value_172 ?_
                        refine lv_iconst (v := 3) hx hb d_Model_value_175 (by decide) ?_
                        refine lv_iload hx hb d_Model_value_176 (lv_at hl 2 rfl) ?_
                        refine gk_imul (x := 3) (y := 6 * i + gq) hx hb d_Model_value_178 ?_
                        refine lv_iload hx hb d_Model_value_179 (lv_at hl 8 rfl) ?_
                        refine lv_bipush (v := 8) hx hb d_Model_value_181 (by decide) ?_
                        refine gk_idiv (x := wn) (y := 8) hx hb d_Model_value_183 (by omega) (by omega) (by omega) ?_
                        refine gk_iadd (x := 3 * (6 * i + gq)) (y := wn / 8) hx hb d_Model_value_184 ?_
                        have h40 : w38 (K 11) = some (.inl (ca 3, 11520, .inr (.inl B.texts))) := hM.1.2 11 (by decide)
                        refine va_lald hx hb hK (hv_one hP h40) 0 3 rfl rfl (vp_in_nI (n := (3 * (6 * i + gq)) + (wn / 8)) (by omega) (by omega)) d_Model_value_185 ?_
                        rw [nI_clamp (n := (3 * (6 * i + gq)) + (wn / 8)) (by omega)]
                        refine lv_bipush (v := 8) hx hb d_Model_value_186 (by decide) ?_
                        refine lv_iload hx hb d_Model_value_188 (lv_at hl 8 rfl) ?_
                        refine lv_bipush (v := 8) hx hb d_Model_value_190 (by decide) ?_
                        refine gk_irem (x := wn) (y := 8) hx hb d_Model_value_192 (by omega) (by omega) (by omega) ?_
                        refine gk_imul (x := 8) (y := wn % 8) hx hb d_Model_value_193 ?_
                        refine lv_lshr (v := (B.texts ((3 * (6 * i + gq)) + (wn / 8))) >>> ((nI (8 * (wn % 8))).toInt64 &&& 63)) hx hb d_Model_value_194 rfl ?_
                        refine lv_ldc2 (v := 255) hx hb hown (hts _ k_Model_106) d_Model_value_195 ?_
                        refine lv_land hx hb d_Model_value_198 ?_
                        exact hv_lret (v := ((B.texts ((3 * (6 * i + gq)) + (wn / 8))) >>> ((nI (8 * (wn % 8))).toInt64 &&& 63)) &&& 255) hQ hx hb hr hZ hS hP hlocks d_Model_value_199 (mRv.of (r' := (0, (pr.2.2.2.getD wn 0).toInt64)) (by rw [x_value, hf]; dsimp only; rw [hgl]; dsimp only; rw [x_val, if_neg c71, if_neg c91, if_neg (fun z => z.elim c44 (fun y => absurd hlt (Int32.not_lt.mpr y))), nI_clamp (by omega)]) (fun _ => hp4 wn hwn) hM (hRel.thr 0) rfl)
                      · exact absurd c158 c91
                    · exact absurd c140 c71
              · exact absurd c91 (nI_neg (by omega) (by decide))
            · exact absurd c71 (nI_neg (by omega) (by decide))
    · have hgl := g_look_posn hg
      rw [show m_pos i t.ps y = -1 by rw [m_pos, if_neg hg]]
      show W _ _ _ _ _ _ _ _ _ _ _ _ _ _ _ (F0 m 24 ls [.int ((-1))])
      refine lv_istore (lv' := [(6, .int ((-1))), (5, .int (nI i)), (0, .ref (K 0)), (1, .int k), (2, .int n), (3, .int y), (4, .int wh)]) hx hb d_Model_value_24 hl (by decide) rfl (fun ls hl => ?_)
      refine lv_iload hx hb d_Model_value_26 (lv_at hl 0 rfl) ?_
      refine lv_if_lt (tgt := 65) hx hb d_Model_value_28 (by decide) (fun c28 => ?_) (fun c28 => ?_)
      · refine lv_iconst (v := 0) hx hb d_Model_value_65 (by decide) ?_
        refine lv_istore (lv' := [(7, .int 0), (6, .int ((-1))), (5, .int (nI i)), (0, .ref (K 0)), (1, .int k), (2, .int n), (3, .int y), (4, .int wh)]) hx hb d_Model_value_66 hl (by decide) rfl (fun ls hl => ?_)
        refine lv_iload hx hb d_Model_value_68 (lv_at hl 7 rfl) ?_
        refine lv_iconst (v := (-1)) hx hb d_Model_value_70 (by decide) ?_
        refine lv_icmp_ne (tgt := 87) hx hb d_Model_value_71 (by decide) (fun c71 => ?_) (fun c71 => ?_)
        · refine lv_iload hx hb d_Model_value_87 (lv_at hl 7 rfl) ?_
          refine lv_bipush (v := (-2)) hx hb d_Model_value_89 (by decide) ?_
          refine lv_icmp_ne (tgt := 107) hx hb d_Model_value_91 (by decide) (fun c91 => ?_) (fun c91 => ?_)
          · refine lv_iload hx hb d_Model_value_107 (lv_at hl 0 rfl) ?_
            refine lv_istore (lv' := [(8, .int 0), (7, .int 0), (6, .int ((-1))), (5, .int (nI i)), (0, .ref (K 0)), (1, .int k), (2, .int n), (3, .int y), (4, .int wh)]) hx hb d_Model_value_109 hl (by decide) rfl (fun ls hl => ?_)
            refine lv_aload_n hx hb d_Model_value_111 rfl (lv_at hl 4 rfl) ?_
            refine lv_iload hx hb d_Model_value_112 (lv_at hl 0 rfl) ?_
            refine lv_if_eq (tgt := 121) hx hb d_Model_value_114 (by decide) (fun c114 => ?_) (fun c114 => ?_)
            · refine lv_iconst (v := 1) hx hb d_Model_value_121 (by decide) ?_
              refine hv_put (D := D) (ci := 7) (v := .int 1) (ty := .int) (C := R_Model) (T := F_Model) (N := 25) hx hb hts i_Model t_Model t_Model_ok n_Model hown hK hP hS h1 rfl 0 (by decide) (hts _ k_Model_51) (fun _ h9 => h9) rfl (by decide +kernel) rfl rfl (Nat.le_of_ble_eq_true rfl) d_Model_value_122 (fun H locs hP hS => ?_)
              obtain ⟨w41, ew41⟩ : ∃ z9 : hv_W, z9 = va_up w (K 0) (some (.inr (7, [.int 1, .ref (K 1), .ref (K 2), .ref (K 3), .ref (K 4), .ref (K 5), .ref (K 6), .ref (K 7), .ref (K 8), .ref (K 9), .ref (K 10), .ref (K 11), .ref (K 12), .int (nI (σ.tape.length)), .ref (K 13), .int (σ.err), .int (σ.off), .int (σ.ins), .int (nI (σ.sc)), .int (nI (σ.ec)), .int (nI (σ.en)), .int (σ.tr), .int (nI (σ.lo)), .int (σ.wr), .int (nI (σ.due))]))) := ⟨_, rfl⟩
              have hP : hv_P D classes s0.heap.size w41 H := by rw [ew41]; exact hP
              have hM : mK ca K w0 ((mAo t9 k9 p9 σ).sThrown 1) B w41 := by rw [ew41]; exact hM.put 0 (by decide) rfl
              have h42 : w41 (K 0) = some (.inr (7, [.int 1, .ref (K 1), .ref (K 2), .ref (K 3), .ref (K 4), .ref (K 5), .ref (K 6), .ref (K 7), .ref (K 8), .ref (K 9), .ref (K 10), .ref (K 11), .ref (K 12), .int (nI (σ.tape.length)), .ref (K 13), .int (σ.err), .int (σ.off), .int (σ.ins), .int (nI (σ.sc)), .int (nI (σ.ec)), .int (nI (σ.en)), .int (σ.tr), .int (nI (σ.lo)), .int (σ.wr), .int (nI (σ.due))])) := by rw [ew41]; exact hv_up_s
              refine lv_iload hx hb d_Model_value_125 (lv_at hl 0 rfl) ?_
              refine lv_if_eq (tgt := 135) hx hb d_Model_value_127 (by decide) (fun c127 => ?_) (fun c127 => ?_)
              · refine lv_lconst (v := 0) hx hb d_Model_value_135 (by decide) ?_
                exact hv_lret (v := 0) hQ hx hb hr hZ hS hP hlocks d_Model_value_136 (mRv.of (r' := (1, 0)) (by rw [x_value, hf]; dsimp only; rw [hgl]; dsimp only; rw [if_neg c71]) (fun z9 => absurd z9 (show ¬ (1 : Nat) = 0 by decide)) hM (hRel.thr 1) rfl)
              · exact absurd c127 (by decide)
            · exact absurd c114 (by decide)
          · refine lv_iload hx hb d_Model_value_94 (lv_at hl 1 rfl) ?_
            refine lv_if_lt (tgt := 103) hx hb d_Model_value_96 (by decide) (fun c96 => ?_) (fun c96 => ?_)
            · refine lv_iconst (v := 0) hx hb d_Model_value_103 (by decide) ?_
              refine lv_goto (tgt := 109) hx hb d_Model_value_104 (by decide) ?_
              refine lv_istore (lv' := [(8, .int 0), (7, .int 0), (6, .int ((-1))), (5, .int (nI i)), (0, .ref (K 0)), (1, .int k), (2, .int n), (3, .int y), (4, .int wh)]) hx hb d_Model_value_109 hl (by decide) rfl (fun ls hl => ?_)
              refine lv_aload_n hx hb d_Model_value_111 rfl (lv_at hl 4 rfl) ?_
              refine lv_iload hx hb d_Model_value_112 (lv_at hl 0 rfl) ?_
              refine lv_if_eq (tgt := 121) hx hb d_Model_value_114 (by decide) (fun c114 => ?_) (fun c114 => ?_)
              · refine lv_iconst (v := 1) hx hb d_Model_value_121 (by decide) ?_
                refine hv_put (D := D) (ci := 7) (v := .int 1) (ty := .int) (C := R_Model) (T := F_Model) (N := 25) hx hb hts i_Model t_Model t_Model_ok n_Model hown hK hP hS h1 rfl 0 (by decide) (hts _ k_Model_51) (fun _ h9 => h9) rfl (by decide +kernel) rfl rfl (Nat.le_of_ble_eq_true rfl) d_Model_value_122 (fun H locs hP hS => ?_)
                obtain ⟨w43, ew43⟩ : ∃ z9 : hv_W, z9 = va_up w (K 0) (some (.inr (7, [.int 1, .ref (K 1), .ref (K 2), .ref (K 3), .ref (K 4), .ref (K 5), .ref (K 6), .ref (K 7), .ref (K 8), .ref (K 9), .ref (K 10), .ref (K 11), .ref (K 12), .int (nI (σ.tape.length)), .ref (K 13), .int (σ.err), .int (σ.off), .int (σ.ins), .int (nI (σ.sc)), .int (nI (σ.ec)), .int (nI (σ.en)), .int (σ.tr), .int (nI (σ.lo)), .int (σ.wr), .int (nI (σ.due))]))) := ⟨_, rfl⟩
                have hP : hv_P D classes s0.heap.size w43 H := by rw [ew43]; exact hP
                have hM : mK ca K w0 ((mAo t9 k9 p9 σ).sThrown 1) B w43 := by rw [ew43]; exact hM.put 0 (by decide) rfl
                have h44 : w43 (K 0) = some (.inr (7, [.int 1, .ref (K 1), .ref (K 2), .ref (K 3), .ref (K 4), .ref (K 5), .ref (K 6), .ref (K 7), .ref (K 8), .ref (K 9), .ref (K 10), .ref (K 11), .ref (K 12), .int (nI (σ.tape.length)), .ref (K 13), .int (σ.err), .int (σ.off), .int (σ.ins), .int (nI (σ.sc)), .int (nI (σ.ec)), .int (nI (σ.en)), .int (σ.tr), .int (nI (σ.lo)), .int (σ.wr), .int (nI (σ.due))])) := by rw [ew43]; exact hv_up_s
                refine lv_iload hx hb d_Model_value_125 (lv_at hl 0 rfl) ?_
                refine lv_if_eq (tgt := 135) hx hb d_Model_value_127 (by decide) (fun c127 => ?_) (fun c127 => ?_)
                · refine lv_lconst (v := 0) hx hb d_Model_value_135 (by decide) ?_
                  exact hv_lret (v := 0) hQ hx hb hr hZ hS hP hlocks d_Model_value_136 (mRv.of (r' := (1, 0)) (by rw [x_value, hf]; dsimp only; rw [hgl]; dsimp only; rw [if_neg c71]) (fun z9 => absurd z9 (show ¬ (1 : Nat) = 0 by decide)) hM (hRel.thr 1) rfl)
                · exact absurd c127 (by decide)
              · exact absurd c114 (by decide)
            · exact absurd c96 (by decide)
        · refine lv_iload hx hb d_Model_value_74 (lv_at hl 2 rfl) ?_
          refine gk_if_lt (x := i) (tgt := 83) hx hb d_Model_value_76 (by decide) (by omega) ?_
          refine lv_iconst (v := 1) hx hb d_Model_value_79 (by decide) ?_
          refine lv_goto (tgt := 109) hx hb d_Model_value_80 (by decide) ?_
          refine lv_istore (lv' := [(8, .int 1), (7, .int 0), (6, .int ((-1))), (5, .int (nI i)), (0, .ref (K 0)), (1, .int k), (2, .int n), (3, .int y), (4, .int wh)]) hx hb d_Model_value_109 hl (by decide) rfl (fun ls hl => ?_)
          refine lv_aload_n hx hb d_Model_value_111 rfl (lv_at hl 4 rfl) ?_
          refine lv_iload hx hb d_Model_value_112 (lv_at hl 0 rfl) ?_
          refine lv_if_eq (tgt := 121) hx hb d_Model_value_114 (by decide) (fun c114 => ?_) (fun c114 => ?_)
          · exact absurd c114 (by decide)
          · refine lv_iconst (v := 0) hx hb d_Model_value_117 (by decide) ?_
            refine lv_goto (tgt := 122) hx hb d_Model_value_118 (by decide) ?_
            refine hv_put (D := D) (ci := 7) (v := .int 0) (ty := .int) (C := R_Model) (T := F_Model) (N := 25) hx hb hts i_Model t_Model t_Model_ok n_Model hown hK hP hS h1 rfl 0 (by decide) (hts _ k_Model_51) (fun _ h9 => h9) rfl (by decide +kernel) rfl rfl (Nat.le_of_ble_eq_true rfl) d_Model_value_122 (fun H locs hP hS => ?_)
            obtain ⟨w45, ew45⟩ : ∃ z9 : hv_W, z9 = va_up w (K 0) (some (.inr (7, [.int 0, .ref (K 1), .ref (K 2), .ref (K 3), .ref (K 4), .ref (K 5), .ref (K 6), .ref (K 7), .ref (K 8), .ref (K 9), .ref (K 10), .ref (K 11), .ref (K 12), .int (nI (σ.tape.length)), .ref (K 13), .int (σ.err), .int (σ.off), .int (σ.ins), .int (nI (σ.sc)), .int (nI (σ.ec)), .int (nI (σ.en)), .int (σ.tr), .int (nI (σ.lo)), .int (σ.wr), .int (nI (σ.due))]))) := ⟨_, rfl⟩
            have hP : hv_P D classes s0.heap.size w45 H := by rw [ew45]; exact hP
            have hM : mK ca K w0 ((mAo t9 k9 p9 σ).sThrown 0) B w45 := by rw [ew45]; exact hM.put 0 (by decide) rfl
            have h46 : w45 (K 0) = some (.inr (7, [.int 0, .ref (K 1), .ref (K 2), .ref (K 3), .ref (K 4), .ref (K 5), .ref (K 6), .ref (K 7), .ref (K 8), .ref (K 9), .ref (K 10), .ref (K 11), .ref (K 12), .int (nI (σ.tape.length)), .ref (K 13), .int (σ.err), .int (σ.off), .int (σ.ins), .int (nI (σ.sc)), .int (nI (σ.ec)), .int (nI (σ.en)), .int (σ.tr), .int (nI (σ.lo)), .int (σ.wr), .int (nI (σ.due))])) := by rw [ew45]; exact hv_up_s
            refine lv_iload hx hb d_Model_value_125 (lv_at hl 0 rfl) ?_
            refine lv_if_eq (tgt := 135) hx hb d_Model_value_127 (by decide) (fun c127 => ?_) (fun c127 => ?_)
            · exact absurd c127 (by decide)
            · refine lv_iload hx hb d_Model_value_130 (lv_at hl 2 rfl) ?_
              refine lv_if_ge (tgt := 137) hx hb d_Model_value_132 (by decide) (fun c132 => ?_) (fun c132 => ?_)
              · exact absurd c132 (by decide)
              · refine lv_lconst (v := 0) hx hb d_Model_value_135 (by decide) ?_
                exact hv_lret (v := 0) hQ hx hb hr hZ hS hP hlocks d_Model_value_136 (mRv.of (r' := (0, 0)) (by rw [x_value, hf]; dsimp only; rw [hgl]; dsimp only; rw [if_pos c71]) (fun _ => rfl) hM (hRel.thr 0) rfl)
      · exact absurd c28 (by decide)

