abbrev rm_GK_mark : Room := { frames := 0, cells := 0, slots := 0, locals := 0 }
set_option maxHeartbeats 4000000 in
set_option maxRecDepth 100000 in
theorem c_GK_mark {l : Launch} {s0 : State} {D : va_G} {ca : Nat → ClassId} (C : hv_C l s0 D (hv_tys ca)) {w : hv_W} {a i n : Nat} {f : Nat → Int32} (hi : i < n) (hn : n ≤ 96) (h0 : w a = some (.inl (ca 2, n, .inl f)))  :
    hv_Met l y_GK_mark [.code y_GK_mark b_GK_mark 2 none] rm_GK_mark (hv_Pc s0 D w [.ref a, .int (nI i)]) (hv_Q s0 D (fun v w' => v = none ∧ hv_U a (.inl (ca 2, n, .inl (upd f i 1))) w w') (fun _ _ => False)) 0 0 (hv_A s0.heap.size) := by
  refine hv_enter C _ (by decide) (Nat.le_of_ble_eq_true rfl) ?_
  intro p e s m below meth c ls Q hQ hx hb hr hml hown hts hK hZ hlocks hname hout htr hP hl
  have hown : s.vm.findClass R_GK = some m.cls := hown
  have hS : va_S (hv_A s0.heap.size) s.heap s.heap [] := va_S.rf
  have hl : lv_has ls 2 [(0, .ref a), (1, .int (nI i))] := hl
  refine lv_iload_n hx hb d_GK_mark_0 rfl (lv_at hl 1 rfl) ?_
  refine gk_if_lt (x := i) (tgt := 14) hx hb d_GK_mark_1 (by decide) (by omega) ?_
  refine lv_iload_n hx hb d_GK_mark_4 rfl (lv_at hl 1 rfl) ?_
  refine lv_aload_n hx hb d_GK_mark_5 rfl (lv_at hl 0 rfl) ?_
  refine va_alen (v := nI n) hx hb hK (hv_one hP h0) 0 2 rfl rfl rfl d_GK_mark_6 ?_
  refine gk_icmp_ge (x := i) (y := n) (tgt := 14) hx hb d_GK_mark_7 (by decide) (by omega) (by omega) (fun c7 => ?_) (fun c7 => ?_)
  · exact absurd c7 (by omega)
  · refine lv_aload_n hx hb d_GK_mark_10 rfl (lv_at hl 0 rfl) ?_
    refine lv_iload_n hx hb d_GK_mark_11 rfl (lv_at hl 1 rfl) ?_
    refine lv_iconst (v := 1) hx hb d_GK_mark_12 (by decide) ?_
    refine hv_zast hx hb hK hP hS 2 h0 rfl (vp_in_nI (n := i) (by omega) (by omega)) d_GK_mark_13 (fun H locs hP hS => ?_)
    rw [nI_clamp (n := i) (by omega)] at hP
    obtain ⟨w1, ew1⟩ : ∃ z9 : hv_W, z9 = va_up w a (some (.inl (ca 2, n, .inl (upd f i (vp_nar .boolean 1))))) := ⟨_, rfl⟩
    have hP : hv_P D classes s0.heap.size w1 H := by rw [ew1]; exact hP
    have h2 : w1 a = some (.inl (ca 2, n, .inl (upd f i (vp_nar .boolean 1)))) := by rw [ew1]; exact hv_up_s
    exact hv_vret hQ hx hb hr hZ hS hP hlocks d_GK_mark_14 (⟨rfl, by rw [← g_bn1]; exact h2, fun b hb => by rw [ew1, hv_up_n hb]⟩)

abbrev rm_GK_startStatement : Room := { frames := 0, cells := 0, slots := 0, locals := 0 }
set_option maxHeartbeats 4000000 in
set_option maxRecDepth 100000 in
theorem c_GK_startStatement {l : Launch} {s0 : State} {D : va_G} {ca : Nat → ClassId} (C : hv_C l s0 D (hv_tys ca)) {w : hv_W} (N : hv_N s0) {L : Nat → Nat} {w0 : hv_W} {σ : gS} {P : cT} (hM : cK ca L w0 σ P w) (hR : cR ca L σ P w)  :
    hv_Met l y_GK_startStatement [.code y_GK_startStatement b_GK_startStatement 2 none] rm_GK_startStatement (hv_Pc s0 D w [.ref (L 0)]) (hv_Q s0 D (fun v w' => v = none ∧ cP ca L w0 (s_start σ) w') (fun _ _ => False)) 0 0 (hv_A s0.heap.size) := by
  refine hv_enter C _ (by decide) (Nat.le_of_ble_eq_true rfl) ?_
  intro p e s m below meth c ls Q hQ hx hb hr hml hown hts hK hZ hlocks hname hout htr hP hl
  have hown : s.vm.findClass R_GK = some m.cls := hown
  have hS : va_S (hv_A s0.heap.size) s.heap s.heap [] := va_S.rf
  have hl : lv_has ls 2 [(0, .ref (L 0))] := hl
  refine lv_aload_n hx hb d_GK_startStatement_0 rfl (lv_at hl 0 rfl) ?_
  refine lv_iconst (v := 0) hx hb d_GK_startStatement_1 (by decide) ?_
  have h1 : w (L 0) = some (.inr (0, [.ref (L 1), .ref (L 2), .ref (L 3), .ref (L 4), .ref (L 5), .ref (L 6), .ref (L 7), .int (σ.err), .int (nI (σ.sc)), .int (nI (σ.ec)), .int (σ.ins), .int (σ.off)])) := hM.1.2 0 (by decide)
  refine hv_put (D := D) (ci := 0) (v := .int 0) (ty := .int) (C := R_GK) (T := F_GK) (N := 12) hx hb hts i_GK t_GK t_GK_ok n_GK hown hK hP hS h1 rfl 8 (by decide) (hts _ k_GK_133) (fun _ h9 => h9) rfl (by decide +kernel) rfl rfl (Nat.le_of_ble_eq_true rfl) d_GK_startStatement_2 (fun H locs hP hS => ?_)
  obtain ⟨w2, ew2⟩ : ∃ z9 : hv_W, z9 = va_up w (L 0) (some (.inr (0, [.ref (L 1), .ref (L 2), .ref (L 3), .ref (L 4), .ref (L 5), .ref (L 6), .ref (L 7), .int (σ.err), .int 0, .int (nI (σ.ec)), .int (σ.ins), .int (σ.off)]))) := ⟨_, rfl⟩
  have hP : hv_P D classes s0.heap.size w2 H := by rw [ew2]; exact hP
  have hM : cK ca L w0 (σ.sSc 0) P w2 := by rw [ew2]; exact hM.put 0 (by decide) rfl
  have hR : cR ca L (σ.sSc 0) P w2 := by rw [ew2]; exact hR.up 0 (by decide)
  have h3 : w2 (L 0) = some (.inr (0, [.ref (L 1), .ref (L 2), .ref (L 3), .ref (L 4), .ref (L 5), .ref (L 6), .ref (L 7), .int (σ.err), .int 0, .int (nI (σ.ec)), .int (σ.ins), .int (σ.off)])) := by rw [ew2]; exact hv_up_s
  refine lv_iconst (v := 0) hx hb d_GK_startStatement_5 (by decide) ?_
  refine lv_istore_n (lv' := [(1, .int 0), (0, .ref (L 0))]) hx hb d_GK_startStatement_6 rfl hl (by decide) rfl (fun ls hl => ?_)
  have hk : g_keep (cM L) w2 w2 := g_keep.refl _
  have lp : ∀ (n9 : Nat) (i : Nat) (f : Nat → Int32) (z : hv_W), 64 - i < n9 → (i ≤ 64) → (cK ca L w0 (σ.sSc 0) (P.sGN f) z) → (g_keep (cM L) w2 z) → (∀ j, j < i → f j = 0) → ∀ (H : Heap) (locs : List Loc) (ls : Array Slot), hv_P D classes s0.heap.size z H → va_S (hv_A s0.heap.size) s.heap H locs → lv_has ls 2 [(0, .ref (L 0)), (1, .int (nI i))] → W p l e rm_GK_startStatement s m ([.ref (L 0)] : List Value).toArray below meth c H locs 0 0 Q (F0 m 7 ls []) := by
    intro n9
    induction n9 with
    | zero =>
      intro i f z hn9
      exact absurd hn9 (Nat.not_lt_zero _)
    | succ n9 ih =>
      intro i f z hn9 hi hM hk hj H locs ls hP hS hl
      refine lv_iload_n hx hb d_GK_startStatement_7 rfl (lv_at hl 1 rfl) ?_
      refine lv_aload_n hx hb d_GK_startStatement_8 rfl (lv_at hl 0 rfl) ?_
      have h4 : z (L 0) = some (.inr (0, [.ref (L 1), .ref (L 2), .ref (L 3), .ref (L 4), .ref (L 5), .ref (L 6), .ref (L 7), .int (σ.err), .int (nI 0), .int (nI (σ.ec)), .int (σ.ins), .int (σ.off)])) := hM.1.2 0 (by decide)
      refine va_get (D := D) (ci := 0) (v := .ref (L 6)) (C := R_GK) (T := F_GK) (N := 12) hx hb hts i_GK hown hK (hv_one hP h4) 0 rfl rfl 5 (by decide) (hts _ k_GK_36) (fun _ h9 => h9) rfl d_GK_startStatement_9 ?_
      have h5 : z (L 6) = some (.inl (ca 2, 64, .inl f)) := hM.1.2 6 (by decide)
      refine va_alen (v := nI 64) hx hb hK (hv_one hP h5) 0 2 rfl rfl rfl d_GK_startStatement_12 ?_
      refine gk_icmp_ge (x := i) (y := 64) (tgt := 29) hx hb d_GK_startStatement_13 (by decide) (by omega) (by omega) (fun c13 => ?_) (fun c13 => ?_)
      · refine lv_iconst (v := 0) hx hb d_GK_startStatement_29 (by decide) ?_
        refine lv_istore_n (lv' := [(1, .int 0), (0, .ref (L 0))]) hx hb d_GK_startStatement_30 rfl hl (by decide) rfl (fun ls hl => ?_)
        have lp2 : ∀ (n9 : Nat) (k : Nat) (g : Nat → Int32) (z2 : hv_W), 96 - k < n9 → (k ≤ 96) → (cK ca L w0 (σ.sSc 0) ((P.sGN f).sGL g) z2) → (g_keep (cM L) w2 z2) → (∀ j, j < k → g j = 0) → ∀ (H : Heap) (locs : List Loc) (ls : Array Slot), hv_P D classes s0.heap.size z2 H → va_S (hv_A s0.heap.size) s.heap H locs → lv_has ls 2 [(0, .ref (L 0)), (1, .int (nI k))] → W p l e rm_GK_startStatement s m ([.ref (L 0)] : List Value).toArray below meth c H locs 0 0 Q (F0 m 31 ls []) := by
          intro n9
          induction n9 with
          | zero =>
            intro k g z2 hn9
            exact absurd hn9 (Nat.not_lt_zero _)
          | succ n9 ih =>
            intro k g z2 hn9 hk9 hM hk hj2 H locs ls hP hS hl
            refine lv_iload_n hx hb d_GK_startStatement_31 rfl (lv_at hl 1 rfl) ?_
            refine lv_aload_n hx hb d_GK_startStatement_32 rfl (lv_at hl 0 rfl) ?_
            have h6 : z2 (L 0) = some (.inr (0, [.ref (L 1), .ref (L 2), .ref (L 3), .ref (L 4), .ref (L 5), .ref (L 6), .ref (L 7), .int (σ.err), .int (nI 0), .int (nI (σ.ec)), .int (σ.ins), .int (σ.off)])) := hM.1.2 0 (by decide)
            refine va_get (D := D) (ci := 0) (v := .ref (L 7)) (C := R_GK) (T := F_GK) (N := 12) hx hb hts i_GK hown hK (hv_one hP h6) 0 rfl rfl 6 (by decide) (hts _ k_GK_40) (fun _ h9 => h9) rfl d_GK_startStatement_33 ?_
            have h7 : z2 (L 7) = some (.inl (ca 2, 96, .inl g)) := hM.1.2 7 (by decide)
            refine va_alen (v := nI 96) hx hb hK (hv_one hP h7) 0 2 rfl rfl rfl d_GK_startStatement_36 ?_
            refine gk_icmp_ge (x := k) (y := 96) (tgt := 53) hx hb d_GK_startStatement_37 (by decide) (by omega) (by omega) (fun c37 => ?_) (fun c37 => ?_)
            · exact hv_vret hQ hx hb hr hZ hS hP hlocks d_GK_startStatement_53 (⟨rfl, (P.sGN f).sGL g, hM, (hR.k hk).1, (hR.k hk).2.1, (hR.k hk).2.2.1, fun j hj9 => hj j (by omega), fun j hj9 => hj2 j (by omega), (hR.k hk).2.2.2.2.2⟩)
            · refine lv_aload_n hx hb d_GK_startStatement_40 rfl (lv_at hl 0 rfl) ?_
              refine va_get (D := D) (ci := 0) (v := .ref (L 7)) (C := R_GK) (T := F_GK) (N := 12) hx hb hts i_GK hown hK (hv_one hP h6) 0 rfl rfl 6 (by decide) (hts _ k_GK_40) (fun _ h9 => h9) rfl d_GK_startStatement_41 ?_
              refine lv_iload_n hx hb d_GK_startStatement_44 rfl (lv_at hl 1 rfl) ?_
              refine lv_iconst (v := 0) hx hb d_GK_startStatement_45 (by decide) ?_
              refine hv_zast hx hb hK hP hS 2 h7 rfl (vp_in_nI (n := k) (by omega) (by omega)) d_GK_startStatement_46 (fun H locs hP hS => ?_)
              rw [nI_clamp (n := k) (by omega)] at hP
              obtain ⟨w8, ew8⟩ : ∃ z9 : hv_W, z9 = va_up z2 (L 7) (some (.inl (ca 2, 96, .inl (upd g k (vp_nar .boolean 0))))) := ⟨_, rfl⟩
              have hP : hv_P D classes s0.heap.size w8 H := by rw [ew8]; exact hP
              have hM : cK ca L w0 (σ.sSc 0) ((P.sGN f).sGL (upd g k (vp_nar .boolean 0))) w8 := by rw [ew8]; exact hM.put 7 (by decide) rfl
              have h9 : w8 (L 7) = some (.inl (ca 2, 96, .inl (upd g k (vp_nar .boolean 0)))) := by rw [ew8]; exact hv_up_s
              refine lv_iinc (v := (nI (k + 1))) (lv' := [(1, .int ((nI (k + 1)))), (0, .ref (L 0))]) hx hb d_GK_startStatement_47 hl (k := 1) rfl (nI_add k 1) (by decide) rfl (fun ls hl => ?_)
              refine lv_goto (tgt := 31) hx hb d_GK_startStatement_50 (by decide) ?_
              exact ih (k + 1) (upd g k (vp_nar .boolean 0)) w8 (by omega) (by omega) hM (hk.trans (by rw [ew8]; exact g_keep.U (by decide) (hv_Uup _))) (gk_fillI (f := fun _ => 0) hj2 (by decide +kernel)) _ _ _ hP hS (lv_sub hl [1, 0] rfl)
        exact lp2 _ 0 P.gL z (Nat.lt_succ_self _) (Nat.zero_le _) hM hk (fun j q => absurd q (Nat.not_lt_zero _)) _ _ _ hP hS (lv_sub hl [1, 0] rfl)
      · refine lv_aload_n hx hb d_GK_startStatement_16 rfl (lv_at hl 0 rfl) ?_
        refine va_get (D := D) (ci := 0) (v := .ref (L 6)) (C := R_GK) (T := F_GK) (N := 12) hx hb hts i_GK hown hK (hv_one hP h4) 0 rfl rfl 5 (by decide) (hts _ k_GK_36) (fun _ h9 => h9) rfl d_GK_startStatement_17 ?_
        refine lv_iload_n hx hb d_GK_startStatement_20 rfl (lv_at hl 1 rfl) ?_
        refine lv_iconst (v := 0) hx hb d_GK_startStatement_21 (by decide) ?_
        refine hv_zast hx hb hK hP hS 2 h5 rfl (vp_in_nI (n := i) (by omega) (by omega)) d_GK_startStatement_22 (fun H locs hP hS => ?_)
        rw [nI_clamp (n := i) (by omega)] at hP
        obtain ⟨w10, ew10⟩ : ∃ z9 : hv_W, z9 = va_up z (L 6) (some (.inl (ca 2, 64, .inl (upd f i (vp_nar .boolean 0))))) := ⟨_, rfl⟩
        have hP : hv_P D classes s0.heap.size w10 H := by rw [ew10]; exact hP
        have hM : cK ca L w0 (σ.sSc 0) (P.sGN (upd f i (vp_nar .boolean 0))) w10 := by rw [ew10]; exact hM.put 6 (by decide) rfl
        have h11 : w10 (L 6) = some (.inl (ca 2, 64, .inl (upd f i (vp_nar .boolean 0)))) := by rw [ew10]; exact hv_up_s
        refine lv_iinc (v := (nI (i + 1))) (lv' := [(1, .int ((nI (i + 1)))), (0, .ref (L 0))]) hx hb d_GK_startStatement_23 hl (k := 1) rfl (nI_add i 1) (by decide) rfl (fun ls hl => ?_)
        refine lv_goto (tgt := 7) hx hb d_GK_startStatement_26 (by decide) ?_
        exact ih (i + 1) (upd f i (vp_nar .boolean 0)) w10 (by omega) (by omega) hM (hk.trans (by rw [ew10]; exact g_keep.U (by decide) (hv_Uup _))) (gk_fillI (f := fun _ => 0) hj (by decide +kernel)) _ _ _ hP hS (lv_sub hl [1, 0] rfl)
  exact lp _ 0 P.gN w2 (Nat.lt_succ_self _) (Nat.zero_le _) hM hk (fun j q => absurd q (Nat.not_lt_zero _)) _ _ _ hP hS (lv_sub hl [1, 0] rfl)

abbrev rm_GK_forgetUnderWay : Room := { frames := 1, cells := 0, slots := 0, locals := 21 }
set_option maxHeartbeats 4000000 in
set_option maxRecDepth 100000 in
theorem c_GK_forgetUnderWay {l : Launch} {s0 : State} {D : va_G} {ca : Nat → ClassId} (C : hv_C l s0 D (hv_tys ca)) {w : hv_W} (N : hv_N s0) {L : Nat → Nat} {w0 : hv_W} {σ : gS} {P : cT} (hM : cK ca L w0 σ P w) (hR : cR ca L σ P w)  :
    hv_Met l y_GK_forgetUnderWay [.code y_GK_forgetUnderWay b_GK_forgetUnderWay 1 none] rm_GK_forgetUnderWay (hv_Pc s0 D w [.ref (L 0)]) (hv_Q s0 D (fun v w' => v = none ∧ cP ca L w0 (s_forget σ) w') (fun _ _ => False)) 0 0 (hv_A s0.heap.size) := by
  refine hv_enter C _ (by decide) (Nat.le_of_ble_eq_true rfl) ?_
  intro p e s m below meth c ls Q hQ hx hb hr hml hown hts hK hZ hlocks hname hout htr hP hl
  have hown : s.vm.findClass R_GK = some m.cls := hown
  have hS : va_S (hv_A s0.heap.size) s.heap s.heap [] := va_S.rf
  have hl : lv_has ls 1 [(0, .ref (L 0))] := hl
  refine lv_aload_n hx hb d_GK_forgetUnderWay_0 rfl (lv_at hl 0 rfl) ?_
  have h1 : w (L 0) = some (.inr (0, [.ref (L 1), .ref (L 2), .ref (L 3), .ref (L 4), .ref (L 5), .ref (L 6), .ref (L 7), .int (σ.err), .int (nI (σ.sc)), .int (nI (σ.ec)), .int (σ.ins), .int (σ.off)])) := hM.1.2 0 (by decide)
  refine hv_call (hv_runV (As := []) (rest := []) (c_GK_startStatement C N hM hR) (hv_cw C hZ kc_GK_startStatement kn_GK ⟨rfl, rfl, Nat.le_of_ble_eq_true rfl, Nat.le_of_ble_eq_true rfl⟩) hv_blind (hv_pre hZ hS hP) hx hml hb hown (hts _ k_GK_304) (hts _ ki_GK_startStatement) (hts _ ksel_GK_GK_startStatement) hy_GK_startStatement (hts _ kc_GK_startStatement) (va_recv hK (hv_one hP h1) (ci := 0) (q0 := 0) rfl rfl) rfl hl.1 rfl (lv_room (Nat.le_of_ble_eq_true rfl)) d_GK_forgetUnderWay_1 ⟨Nat.le_of_ble_eq_true rfl, Nat.le_of_ble_eq_true rfl⟩) hZ hS (fun v9 w2 H locs q3 hP hS => ?_) (fun x9 w2 H locs q3 hP hS => q3.elim)
  obtain ⟨hv9, P1, hM, hR⟩ := q3
  subst hv9
  show W _ _ _ _ _ _ _ _ _ _ _ _ _ _ _ (F0 m 4 ls [])
  refine lv_aload_n hx hb d_GK_forgetUnderWay_4 rfl (lv_at hl 0 rfl) ?_
  refine lv_iconst (v := 0) hx hb d_GK_forgetUnderWay_5 (by decide) ?_
  have h4 : w2 (L 0) = some (.inr (0, [.ref (L 1), .ref (L 2), .ref (L 3), .ref (L 4), .ref (L 5), .ref (L 6), .ref (L 7), .int ((s_start σ).err), .int (nI ((s_start σ).sc)), .int (nI ((s_start σ).ec)), .int ((s_start σ).ins), .int ((s_start σ).off)])) := hM.1.2 0 (by decide)
  refine hv_put (D := D) (ci := 0) (v := .int 0) (ty := .int) (C := R_GK) (T := F_GK) (N := 12) hx hb hts i_GK t_GK t_GK_ok n_GK hown hK hP hS h4 rfl 9 (by decide) (hts _ k_GK_162) (fun _ h9 => h9) rfl (by decide +kernel) rfl rfl (Nat.le_of_ble_eq_true rfl) d_GK_forgetUnderWay_6 (fun H locs hP hS => ?_)
  obtain ⟨w5, ew5⟩ : ∃ z9 : hv_W, z9 = va_up w2 (L 0) (some (.inr (0, [.ref (L 1), .ref (L 2), .ref (L 3), .ref (L 4), .ref (L 5), .ref (L 6), .ref (L 7), .int ((s_start σ).err), .int (nI ((s_start σ).sc)), .int 0, .int ((s_start σ).ins), .int ((s_start σ).off)]))) := ⟨_, rfl⟩
  have hP : hv_P D classes s0.heap.size w5 H := by rw [ew5]; exact hP
  have hM : cK ca L w0 ((s_start σ).sEc 0) P1 w5 := by rw [ew5]; exact hM.put 0 (by decide) rfl
  have hR : cR ca L ((s_start σ).sEc 0) P1 w5 := by rw [ew5]; exact hR.up 0 (by decide)
  have h6 : w5 (L 0) = some (.inr (0, [.ref (L 1), .ref (L 2), .ref (L 3), .ref (L 4), .ref (L 5), .ref (L 6), .ref (L 7), .int ((s_start σ).err), .int (nI ((s_start σ).sc)), .int 0, .int ((s_start σ).ins), .int ((s_start σ).off)])) := by rw [ew5]; exact hv_up_s
  refine lv_aload_n hx hb d_GK_forgetUnderWay_9 rfl (lv_at hl 0 rfl) ?_
  refine lv_iconst (v := 0) hx hb d_GK_forgetUnderWay_10 (by decide) ?_
  refine hv_put (D := D) (ci := 0) (v := .int 0) (ty := .boolean) (C := R_GK) (T := F_GK) (N := 12) hx hb hts i_GK t_GK t_GK_ok n_GK hown hK hP hS h6 rfl 10 (by decide) (hts _ k_GK_136) (fun _ h9 => h9) rfl (by decide +kernel) (by decide +kernel) (by decide +kernel) (Nat.le_of_ble_eq_true rfl) d_GK_forgetUnderWay_11 (fun H locs hP hS => ?_)
  obtain ⟨w7, ew7⟩ : ∃ z9 : hv_W, z9 = va_up w5 (L 0) (some (.inr (0, [.ref (L 1), .ref (L 2), .ref (L 3), .ref (L 4), .ref (L 5), .ref (L 6), .ref (L 7), .int ((s_start σ).err), .int (nI ((s_start σ).sc)), .int 0, .int 0, .int ((s_start σ).off)]))) := ⟨_, rfl⟩
  have hP : hv_P D classes s0.heap.size w7 H := by rw [ew7]; exact hP
  have hM : cK ca L w0 (((s_start σ).sEc 0).sIns 0) P1 w7 := by rw [ew7]; exact hM.put 0 (by decide) rfl
  have hR : cR ca L (((s_start σ).sEc 0).sIns 0) P1 w7 := by rw [ew7]; exact hR.up 0 (by decide)
  have h8 : w7 (L 0) = some (.inr (0, [.ref (L 1), .ref (L 2), .ref (L 3), .ref (L 4), .ref (L 5), .ref (L 6), .ref (L 7), .int ((s_start σ).err), .int (nI ((s_start σ).sc)), .int 0, .int 0, .int ((s_start σ).off)])) := by rw [ew7]; exact hv_up_s
  exact hv_vret hQ hx hb hr hZ hS hP hlocks d_GK_forgetUnderWay_14 (⟨rfl, P1, hM, hR⟩)

abbrev rm_GK_goOff : Room := { frames := 2, cells := 0, slots := 0, locals := 41 }
set_option maxHeartbeats 4000000 in
set_option maxRecDepth 100000 in
theorem c_GK_goOff {l : Launch} {s0 : State} {D : va_G} {ca : Nat → ClassId} (C : hv_C l s0 D (hv_tys ca)) {w : hv_W} (N : hv_N s0) {L : Nat → Nat} {w0 : hv_W} {σ : gS} {P : cT} (hM : cK ca L w0 σ P w) (hR : cR ca L σ P w)  :
    hv_Met l y_GK_goOff [.code y_GK_goOff b_GK_goOff 1 none] rm_GK_goOff (hv_Pc s0 D w [.ref (L 0)]) (hv_Q s0 D (fun v w' => v = none ∧ cP ca L w0 (s_off σ) w') (fun _ _ => False)) 0 0 (hv_A s0.heap.size) := by
  refine hv_enter C _ (by decide) (Nat.le_of_ble_eq_true rfl) ?_
  intro p e s m below meth c ls Q hQ hx hb hr hml hown hts hK hZ hlocks hname hout htr hP hl
  have hown : s.vm.findClass R_GK = some m.cls := hown
  have hS : va_S (hv_A s0.heap.size) s.heap s.heap [] := va_S.rf
  have hl : lv_has ls 1 [(0, .ref (L 0))] := hl
  refine lv_aload_n hx hb d_GK_goOff_0 rfl (lv_at hl 0 rfl) ?_
  refine lv_iconst (v := 1) hx hb d_GK_goOff_1 (by decide) ?_
  have h1 : w (L 0) = some (.inr (0, [.ref (L 1), .ref (L 2), .ref (L 3), .ref (L 4), .ref (L 5), .ref (L 6), .ref (L 7), .int (σ.err), .int (nI (σ.sc)), .int (nI (σ.ec)), .int (σ.ins), .int (σ.off)])) := hM.1.2 0 (by decide)
  refine hv_put (D := D) (ci := 0) (v := .int 1) (ty := .boolean) (C := R_GK) (T := F_GK) (N := 12) hx hb hts i_GK t_GK t_GK_ok n_GK hown hK hP hS h1 rfl 11 (by decide) (hts _ k_GK_159) (fun _ h9 => h9) rfl (by decide +kernel) (by decide +kernel) (by decide +kernel) (Nat.le_of_ble_eq_true rfl) d_GK_goOff_2 (fun H locs hP hS => ?_)
  obtain ⟨w2, ew2⟩ : ∃ z9 : hv_W, z9 = va_up w (L 0) (some (.inr (0, [.ref (L 1), .ref (L 2), .ref (L 3), .ref (L 4), .ref (L 5), .ref (L 6), .ref (L 7), .int (σ.err), .int (nI (σ.sc)), .int (nI (σ.ec)), .int (σ.ins), .int 1]))) := ⟨_, rfl⟩
  have hP : hv_P D classes s0.heap.size w2 H := by rw [ew2]; exact hP
  have hM : cK ca L w0 (σ.sOff 1) P w2 := by rw [ew2]; exact hM.put 0 (by decide) rfl
  have hR : cR ca L (σ.sOff 1) P w2 := by rw [ew2]; exact hR.off1.up 0 (by decide)
  have h3 : w2 (L 0) = some (.inr (0, [.ref (L 1), .ref (L 2), .ref (L 3), .ref (L 4), .ref (L 5), .ref (L 6), .ref (L 7), .int (σ.err), .int (nI (σ.sc)), .int (nI (σ.ec)), .int (σ.ins), .int 1])) := by rw [ew2]; exact hv_up_s
  refine lv_aload_n hx hb d_GK_goOff_5 rfl (lv_at hl 0 rfl) ?_
  refine va_get (D := D) (ci := 0) (v := .ref (L 1)) (C := R_GK) (T := F_GK) (N := 12) hx hb hts i_GK hown hK (hv_one hP h3) 0 rfl rfl 0 (by decide) (hts _ k_GK_10) (fun _ h9 => h9) rfl d_GK_goOff_6 ?_
  have h4 : w2 (L 1) = some (.inr (1, [.ref (L 8), .ref (L 9)])) := hM.1.2 1 (by decide)
  have h5 : w2 (L 8) = some (.inl (ca 5, 64, .inr (.inr (.inr (.inr P.nN))))) := hM.1.2 8 (by decide)
  have h6 : w2 (L 9) = some (.inl (ca 6, 96, .inr (.inr (.inr (.inr P.nL))))) := hM.1.2 9 (by decide)
  refine hv_call (hv_runV (As := []) (rest := []) (c_Gr_clear C h4 h5 h6) (hv_cw C hZ kc_Gr_clear kn_Gr ⟨rfl, rfl, Nat.le_of_ble_eq_true rfl, Nat.le_of_ble_eq_true rfl⟩) hv_blind (hv_pre hZ hS hP) hx hml hb hown (hts _ k_GK_301) (hts _ ki_Gr_clear) (hts _ ksel_Gr_Gr_clear) hy_Gr_clear (hts _ kc_Gr_clear) (va_recv hK (hv_one hP h4) (ci := 1) (q0 := 0) rfl rfl) rfl hl.1 rfl (lv_room (Nat.le_of_ble_eq_true rfl)) d_GK_goOff_9 ⟨Nat.le_of_ble_eq_true rfl, Nat.le_of_ble_eq_true rfl⟩) hZ hS (fun v9 w7 H locs q8 hP hS => ?_) (fun x9 w7 H locs q8 hP hS => q8.elim)
  obtain ⟨hv9, f1, f2, u1, u2, u3, u4, uo⟩ := q8
  subst hv9
  have hk9 : g_keep (cM L) w2 w7 := g_keep.U2 (k1 := 8) (k2 := 9) (by decide) (by decide) uo
  have hM : cK ca L w0 ((σ.sOff 1).sNow (fun _ => none)) ((P.sNN f1).sNL f2) w7 := hM.U2 8 9 (by decide) (by decide) (by decide) u1 u2 uo rfl
  have hR9 := hR.k hk9
  have hR : cR ca L ((σ.sOff 1).sNow (fun _ => none)) ((P.sNN f1).sNL f2) w7 := ⟨cG_none u3 u4, fun z => absurd z (show ¬ (1 : Int32) = 0 by decide), hR9.2.2.1, hR9.2.2.2⟩
  show W _ _ _ _ _ _ _ _ _ _ _ _ _ _ _ (F0 m 12 ls [])
  refine lv_aload_n hx hb d_GK_goOff_12 rfl (lv_at hl 0 rfl) ?_
  have h9 : w7 (L 0) = some (.inr (0, [.ref (L 1), .ref (L 2), .ref (L 3), .ref (L 4), .ref (L 5), .ref (L 6), .ref (L 7), .int (((σ.sOff 1).sNow (fun _ => none)).err), .int (nI (((σ.sOff 1).sNow (fun _ => none)).sc)), .int (nI (((σ.sOff 1).sNow (fun _ => none)).ec)), .int (((σ.sOff 1).sNow (fun _ => none)).ins), .int (((σ.sOff 1).sNow (fun _ => none)).off)])) := hM.1.2 0 (by decide)
  refine hv_call (hv_runV (As := []) (rest := []) (c_GK_forgetUnderWay C N hM hR) (hv_cw C hZ kc_GK_forgetUnderWay kn_GK ⟨rfl, rfl, Nat.le_of_ble_eq_true rfl, Nat.le_of_ble_eq_true rfl⟩) hv_blind (hv_pre hZ hS hP) hx hml hb hown (hts _ k_GK_165) (hts _ ki_GK_forgetUnderWay) (hts _ ksel_GK_GK_forgetUnderWay) hy_GK_forgetUnderWay (hts _ kc_GK_forgetUnderWay) (va_recv hK (hv_one hP h9) (ci := 0) (q0 := 0) rfl rfl) rfl hl.1 rfl (lv_room (Nat.le_of_ble_eq_true rfl)) d_GK_goOff_13 ⟨Nat.le_of_ble_eq_true rfl, Nat.le_of_ble_eq_true rfl⟩) hZ hS (fun v9 w10 H locs q11 hP hS => ?_) (fun x9 w10 H locs q11 hP hS => q11.elim)
  obtain ⟨hv9, P1, hM, hR⟩ := q11
  subst hv9
  show W _ _ _ _ _ _ _ _ _ _ _ _ _ _ _ (F0 m 16 ls [])
  exact hv_vret hQ hx hb hr hZ hS hP hlocks d_GK_goOff_16 (⟨rfl, P1, hM, hR⟩)

abbrev rm_GK_closeStatement : Room := { frames := 2, cells := 0, slots := 0, locals := 43 }
set_option maxHeartbeats 4000000 in
set_option maxRecDepth 100000 in
theorem c_GK_closeStatement {l : Launch} {s0 : State} {D : va_G} {ca : Nat → ClassId} (C : hv_C l s0 D (hv_tys ca)) {w : hv_W} (N : hv_N s0) {L : Nat → Nat} {w0 : hv_W} {σ : gS} {P : cT} (hM : cK ca L w0 σ P w) (hR : cR ca L σ P w) (hb9 : σ.ec + σ.sc ≤ 249)  :
    hv_Met l y_GK_closeStatement [.code y_GK_closeStatement b_GK_closeStatement 1 none] rm_GK_closeStatement (hv_Pc s0 D w [.ref (L 0)]) (hv_Q s0 D (fun v w' => v = none ∧ cP ca L w0 (s_close σ) w') (fun _ _ => False)) 0 0 (hv_A s0.heap.size) := by
  refine hv_enter C _ (by decide) (Nat.le_of_ble_eq_true rfl) ?_
  intro p e s m below meth c ls Q hQ hx hb hr hml hown hts hK hZ hlocks hname hout htr hP hl
  have hown : s.vm.findClass R_GK = some m.cls := hown
  have hS : va_S (hv_A s0.heap.size) s.heap s.heap [] := va_S.rf
  have hl : lv_has ls 1 [(0, .ref (L 0))] := hl
  refine lv_aload_n hx hb d_GK_closeStatement_0 rfl (lv_at hl 0 rfl) ?_
  have h1 : w (L 0) = some (.inr (0, [.ref (L 1), .ref (L 2), .ref (L 3), .ref (L 4), .ref (L 5), .ref (L 6), .ref (L 7), .int (σ.err), .int (nI (σ.sc)), .int (nI (σ.ec)), .int (σ.ins), .int (σ.off)])) := hM.1.2 0 (by decide)
  refine va_get (D := D) (ci := 0) (v := .int (σ.ins)) (C := R_GK) (T := F_GK) (N := 12) hx hb hts i_GK hown hK (hv_one hP h1) 0 rfl rfl 10 (by decide) (hts _ k_GK_136) (fun _ h9 => h9) rfl d_GK_closeStatement_1 ?_
  refine lv_if_eq (tgt := 20) hx hb d_GK_closeStatement_4 (by decide) (fun c4 => ?_) (fun c4 => ?_)
  · refine lv_aload_n hx hb d_GK_closeStatement_20 rfl (lv_at hl 0 rfl) ?_
    refine va_get (D := D) (ci := 0) (v := .int (nI (σ.sc))) (C := R_GK) (T := F_GK) (N := 12) hx hb hts i_GK hown hK (hv_one hP h1) 0 rfl rfl 8 (by decide) (hts _ k_GK_133) (fun _ h9 => h9) rfl d_GK_closeStatement_21 ?_
    refine gk_if_le (x := σ.sc) (tgt := 38) hx hb d_GK_closeStatement_24 (by decide) (by omega) (fun c24 => ?_) (fun c24 => ?_)
    · refine lv_aload_n hx hb d_GK_closeStatement_38 rfl (lv_at hl 0 rfl) ?_
      refine hv_call (hv_runV (As := []) (rest := []) (c_GK_startStatement C N hM hR) (hv_cw C hZ kc_GK_startStatement kn_GK ⟨rfl, rfl, Nat.le_of_ble_eq_true rfl, Nat.le_of_ble_eq_true rfl⟩) hv_blind (hv_pre hZ hS hP) hx hml hb hown (hts _ k_GK_304) (hts _ ki_GK_startStatement) (hts _ ksel_GK_GK_startStatement) hy_GK_startStatement (hts _ kc_GK_startStatement) (va_recv hK (hv_one hP h1) (ci := 0) (q0 := 0) rfl rfl) rfl hl.1 rfl (lv_room (Nat.le_of_ble_eq_true rfl)) d_GK_closeStatement_39 ⟨Nat.le_of_ble_eq_true rfl, Nat.le_of_ble_eq_true rfl⟩) hZ hS (fun v9 w2 H locs q3 hP hS => ?_) (fun x9 w2 H locs q3 hP hS => q3.elim)
      obtain ⟨hv9, P1, hM, hR⟩ := q3
      subst hv9
      show W _ _ _ _ _ _ _ _ _ _ _ _ _ _ _ (F0 m 42 ls [])
      exact hv_vret hQ hx hb hr hZ hS hP hlocks d_GK_closeStatement_42 (⟨rfl, P1, by rw [s_close, if_pos c24, if_pos c4]; exact ⟨hM, hR⟩⟩)
    · refine lv_aload_n hx hb d_GK_closeStatement_27 rfl (lv_at hl 0 rfl) ?_
      refine va_get (D := D) (ci := 0) (v := .ref (L 2)) (C := R_GK) (T := F_GK) (N := 12) hx hb hts i_GK hown hK (hv_one hP h1) 0 rfl rfl 1 (by decide) (hts _ k_GK_16) (fun _ h9 => h9) rfl d_GK_closeStatement_28 ?_
      refine lv_aload_n hx hb d_GK_closeStatement_31 rfl (lv_at hl 0 rfl) ?_
      refine va_get (D := D) (ci := 0) (v := .ref (L 1)) (C := R_GK) (T := F_GK) (N := 12) hx hb hts i_GK hown hK (hv_one hP h1) 0 rfl rfl 0 (by decide) (hts _ k_GK_10) (fun _ h9 => h9) rfl d_GK_closeStatement_32 ?_
      have h4 : w (L 2) = some (.inr (1, [.ref (L 10), .ref (L 11)])) := hM.1.2 2 (by decide)
      have h5 : w (L 10) = some (.inl (ca 5, 64, .inr (.inr (.inr (.inr P.aN))))) := hM.1.2 10 (by decide)
      have h6 : w (L 11) = some (.inl (ca 6, 96, .inr (.inr (.inr (.inr P.aL))))) := hM.1.2 11 (by decide)
      have h7 : w (L 1) = some (.inr (1, [.ref (L 8), .ref (L 9)])) := hM.1.2 1 (by decide)
      have h8 : w (L 8) = some (.inl (ca 5, 64, .inr (.inr (.inr (.inr P.nN))))) := hM.1.2 8 (by decide)
      have h9 : w (L 9) = some (.inl (ca 6, 96, .inr (.inr (.inr (.inr P.nL))))) := hM.1.2 9 (by decide)
      refine hv_call (hv_runV (As := [.ref (L 1)]) (rest := []) (c_Gr_copyFrom C h4 h5 h6 h7 h8 h9 (hM.ne (i := 8) (j := 10) (by decide) (by decide) (by decide)) (hM.ne (i := 9) (j := 11) (by decide) (by decide) (by decide)) (hM.ne (i := 11) (j := 10) (by decide) (by decide) (by decide)) (hM.ne (i := 9) (j := 10) (by decide) (by decide) (by decide)) (hM.ne (i := 8) (j := 11) (by decide) (by decide) (by decide)) (cG_kdN hR.1) (cG_kdL hR.1)) (hv_cw C hZ kc_Gr_copyFrom kn_Gr ⟨rfl, rfl, Nat.le_of_ble_eq_true rfl, Nat.le_of_ble_eq_true rfl⟩) hv_blind (hv_pre hZ hS hP) hx hml hb hown (hts _ k_GK_297) (hts _ ki_Gr_copyFrom) (hts _ ksel_Gr_Gr_copyFrom) hy_Gr_copyFrom (hts _ kc_Gr_copyFrom) (va_recv hK (hv_one hP h4) (ci := 1) (q0 := 0) rfl rfl) rfl hl.1 rfl (lv_room (Nat.le_of_ble_eq_true rfl)) d_GK_closeStatement_35 ⟨Nat.le_of_ble_eq_true rfl, Nat.le_of_ble_eq_true rfl⟩) hZ hS (fun v9 w10 H locs q11 hP hS => ?_) (fun x9 w10 H locs q11 hP hS => q11.elim)
      obtain ⟨hv9, f1, f2, u1, u2, u3, u4, uo⟩ := q11
      subst hv9
      have hk9 : g_keep (cM L) w w10 := g_keep.U2 (k1 := 10) (k2 := 11) (by decide) (by decide) uo
      have hM : cK ca L w0 (σ.sStm σ.now) ((P.sAN f1).sAL f2) w10 := hM.U2 10 11 (by decide) (by decide) (by decide) u1 u2 uo rfl
      have hR9 := hR.k hk9
      have hR : cR ca L (σ.sStm σ.now) ((P.sAN f1).sAL f2) w10 := ⟨hR9.1, fun _ => cG_copy hR9.1 u3 u4, hR9.2.2.1, hR9.2.2.2⟩
      show W _ _ _ _ _ _ _ _ _ _ _ _ _ _ _ (F0 m 38 ls [])
      refine lv_aload_n hx hb d_GK_closeStatement_38 rfl (lv_at hl 0 rfl) ?_
      have h12 : w10 (L 0) = some (.inr (0, [.ref (L 1), .ref (L 2), .ref (L 3), .ref (L 4), .ref (L 5), .ref (L 6), .ref (L 7), .int ((σ.sStm σ.now).err), .int (nI ((σ.sStm σ.now).sc)), .int (nI ((σ.sStm σ.now).ec)), .int ((σ.sStm σ.now).ins), .int ((σ.sStm σ.now).off)])) := hM.1.2 0 (by decide)
      refine hv_call (hv_runV (As := []) (rest := []) (c_GK_startStatement C N hM hR) (hv_cw C hZ kc_GK_startStatement kn_GK ⟨rfl, rfl, Nat.le_of_ble_eq_true rfl, Nat.le_of_ble_eq_true rfl⟩) hv_blind (hv_pre hZ hS hP) hx hml hb hown (hts _ k_GK_304) (hts _ ki_GK_startStatement) (hts _ ksel_GK_GK_startStatement) hy_GK_startStatement (hts _ kc_GK_startStatement) (va_recv hK (hv_one hP h12) (ci := 0) (q0 := 0) rfl rfl) rfl hl.1 rfl (lv_room (Nat.le_of_ble_eq_true rfl)) d_GK_closeStatement_39 ⟨Nat.le_of_ble_eq_true rfl, Nat.le_of_ble_eq_true rfl⟩) hZ hS (fun v9 w13 H locs q14 hP hS => ?_) (fun x9 w13 H locs q14 hP hS => q14.elim)
      obtain ⟨hv9, P1, hM, hR⟩ := q14
      subst hv9
      show W _ _ _ _ _ _ _ _ _ _ _ _ _ _ _ (F0 m 42 ls [])
      exact hv_vret hQ hx hb hr hZ hS hP hlocks d_GK_closeStatement_42 (⟨rfl, P1, by rw [s_close, if_neg c24, if_pos c4]; exact ⟨hM, hR⟩⟩)
  · refine lv_aload_n hx hb d_GK_closeStatement_7 rfl (lv_at hl 0 rfl) ?_
    refine lv_dup hx hb d_GK_closeStatement_8 rfl ?_
    refine va_get (D := D) (ci := 0) (v := .int (nI (σ.ec))) (C := R_GK) (T := F_GK) (N := 12) hx hb hts i_GK hown hK (hv_one hP h1) 0 rfl rfl 9 (by decide) (hts _ k_GK_162) (fun _ h9 => h9) rfl d_GK_closeStatement_9 ?_
    refine lv_aload_n hx hb d_GK_closeStatement_12 rfl (lv_at hl 0 rfl) ?_
    refine va_get (D := D) (ci := 0) (v := .int (nI (σ.sc))) (C := R_GK) (T := F_GK) (N := 12) hx hb hts i_GK hown hK (hv_one hP h1) 0 rfl rfl 8 (by decide) (hts _ k_GK_133) (fun _ h9 => h9) rfl d_GK_closeStatement_13 ?_
    refine gk_iadd (x := σ.ec) (y := σ.sc) hx hb d_GK_closeStatement_16 ?_
    refine hv_put (D := D) (ci := 0) (v := .int (nI ((σ.ec) + (σ.sc)))) (ty := .int) (C := R_GK) (T := F_GK) (N := 12) hx hb hts i_GK t_GK t_GK_ok n_GK hown hK hP hS h1 rfl 9 (by decide) (hts _ k_GK_162) (fun _ h9 => h9) rfl (by decide +kernel) rfl rfl (Nat.le_of_ble_eq_true rfl) d_GK_closeStatement_17 (fun H locs hP hS => ?_)
    obtain ⟨w15, ew15⟩ : ∃ z9 : hv_W, z9 = va_up w (L 0) (some (.inr (0, [.ref (L 1), .ref (L 2), .ref (L 3), .ref (L 4), .ref (L 5), .ref (L 6), .ref (L 7), .int (σ.err), .int (nI (σ.sc)), .int (nI ((σ.ec) + (σ.sc))), .int (σ.ins), .int (σ.off)]))) := ⟨_, rfl⟩
    have hP : hv_P D classes s0.heap.size w15 H := by rw [ew15]; exact hP
    have hM : cK ca L w0 (σ.sEc ((σ.ec) + (σ.sc))) P w15 := by rw [ew15]; exact hM.put 0 (by decide) rfl
    have hR : cR ca L (σ.sEc ((σ.ec) + (σ.sc))) P w15 := by rw [ew15]; exact hR.up 0 (by decide)
    have h16 : w15 (L 0) = some (.inr (0, [.ref (L 1), .ref (L 2), .ref (L 3), .ref (L 4), .ref (L 5), .ref (L 6), .ref (L 7), .int (σ.err), .int (nI (σ.sc)), .int (nI ((σ.ec) + (σ.sc))), .int (σ.ins), .int (σ.off)])) := by rw [ew15]; exact hv_up_s
    refine lv_aload_n hx hb d_GK_closeStatement_20 rfl (lv_at hl 0 rfl) ?_
    refine va_get (D := D) (ci := 0) (v := .int (nI (σ.sc))) (C := R_GK) (T := F_GK) (N := 12) hx hb hts i_GK hown hK (hv_one hP h16) 0 rfl rfl 8 (by decide) (hts _ k_GK_133) (fun _ h9 => h9) rfl d_GK_closeStatement_21 ?_
    refine gk_if_le (x := σ.sc) (tgt := 38) hx hb d_GK_closeStatement_24 (by decide) (by omega) (fun c24 => ?_) (fun c24 => ?_)
    · refine lv_aload_n hx hb d_GK_closeStatement_38 rfl (lv_at hl 0 rfl) ?_
      refine hv_call (hv_runV (As := []) (rest := []) (c_GK_startStatement C N hM hR) (hv_cw C hZ kc_GK_startStatement kn_GK ⟨rfl, rfl, Nat.le_of_ble_eq_true rfl, Nat.le_of_ble_eq_true rfl⟩) hv_blind (hv_pre hZ hS hP) hx hml hb hown (hts _ k_GK_304) (hts _ ki_GK_startStatement) (hts _ ksel_GK_GK_startStatement) hy_GK_startStatement (hts _ kc_GK_startStatement) (va_recv hK (hv_one hP h16) (ci := 0) (q0 := 0) rfl rfl) rfl hl.1 rfl (lv_room (Nat.le_of_ble_eq_true rfl)) d_GK_closeStatement_39 ⟨Nat.le_of_ble_eq_true rfl, Nat.le_of_ble_eq_true rfl⟩) hZ hS (fun v9 w17 H locs q18 hP hS => ?_) (fun x9 w17 H locs q18 hP hS => q18.elim)
      obtain ⟨hv9, P1, hM, hR⟩ := q18
      subst hv9
      show W _ _ _ _ _ _ _ _ _ _ _ _ _ _ _ (F0 m 42 ls [])
      exact hv_vret hQ hx hb hr hZ hS hP hlocks d_GK_closeStatement_42 (⟨rfl, P1, by rw [s_close, if_pos c24, if_neg c4]; exact ⟨hM, hR⟩⟩)
    · refine lv_aload_n hx hb d_GK_closeStatement_27 rfl (lv_at hl 0 rfl) ?_
      refine va_get (D := D) (ci := 0) (v := .ref (L 2)) (C := R_GK) (T := F_GK) (N := 12) hx hb hts i_GK hown hK (hv_one hP h16) 0 rfl rfl 1 (by decide) (hts _ k_GK_16) (fun _ h9 => h9) rfl d_GK_closeStatement_28 ?_
      refine lv_aload_n hx hb d_GK_closeStatement_31 rfl (lv_at hl 0 rfl) ?_
      refine va_get (D := D) (ci := 0) (v := .ref (L 1)) (C := R_GK) (T := F_GK) (N := 12) hx hb hts i_GK hown hK (hv_one hP h16) 0 rfl rfl 0 (by decide) (hts _ k_GK_10) (fun _ h9 => h9) rfl d_GK_closeStatement_32 ?_
      have h19 : w15 (L 2) = some (.inr (1, [.ref (L 10), .ref (L 11)])) := hM.1.2 2 (by decide)
      have h20 : w15 (L 10) = some (.inl (ca 5, 64, .inr (.inr (.inr (.inr P.aN))))) := hM.1.2 10 (by decide)
      have h21 : w15 (L 11) = some (.inl (ca 6, 96, .inr (.inr (.inr (.inr P.aL))))) := hM.1.2 11 (by decide)
      have h22 : w15 (L 1) = some (.inr (1, [.ref (L 8), .ref (L 9)])) := hM.1.2 1 (by decide)
      have h23 : w15 (L 8) = some (.inl (ca 5, 64, .inr (.inr (.inr (.inr P.nN))))) := hM.1.2 8 (by decide)
      have h24 : w15 (L 9) = some (.inl (ca 6, 96, .inr (.inr (.inr (.inr P.nL))))) := hM.1.2 9 (by decide)
      refine hv_call (hv_runV (As := [.ref (L 1)]) (rest := []) (c_Gr_copyFrom C h19 h20 h21 h22 h23 h24 (hM.ne (i := 8) (j := 10) (by decide) (by decide) (by decide)) (hM.ne (i := 9) (j := 11) (by decide) (by decide) (by decide)) (hM.ne (i := 11) (j := 10) (by decide) (by decide) (by decide)) (hM.ne (i := 9) (j := 10) (by decide) (by decide) (by decide)) (hM.ne (i := 8) (j := 11) (by decide) (by decide) (by decide)) (cG_kdN hR.1) (cG_kdL hR.1)) (hv_cw C hZ kc_Gr_copyFrom kn_Gr ⟨rfl, rfl, Nat.le_of_ble_eq_true rfl, Nat.le_of_ble_eq_true rfl⟩) hv_blind (hv_pre hZ hS hP) hx hml hb hown (hts _ k_GK_297) (hts _ ki_Gr_copyFrom) (hts _ ksel_Gr_Gr_copyFrom) hy_Gr_copyFrom (hts _ kc_Gr_copyFrom) (va_recv hK (hv_one hP h19) (ci := 1) (q0 := 0) rfl rfl) rfl hl.1 rfl (lv_room (Nat.le_of_ble_eq_true rfl)) d_GK_closeStatement_35 ⟨Nat.le_of_ble_eq_true rfl, Nat.le_of_ble_eq_true rfl⟩) hZ hS (fun v9 w25 H locs q26 hP hS => ?_) (fun x9 w25 H locs q26 hP hS => q26.elim)
      obtain ⟨hv9, f1, f2, u1, u2, u3, u4, uo⟩ := q26
      subst hv9
      have hk9 : g_keep (cM L) w15 w25 := g_keep.U2 (k1 := 10) (k2 := 11) (by decide) (by decide) uo
      have hM : cK ca L w0 ((σ.sEc (σ.ec + σ.sc)).sStm σ.now) ((P.sAN f1).sAL f2) w25 := hM.U2 10 11 (by decide) (by decide) (by decide) u1 u2 uo rfl
      have hR9 := hR.k hk9
      have hR : cR ca L ((σ.sEc (σ.ec + σ.sc)).sStm σ.now) ((P.sAN f1).sAL f2) w25 := ⟨hR9.1, fun _ => cG_copy hR9.1 u3 u4, hR9.2.2.1, hR9.2.2.2⟩
      show W _ _ _ _ _ _ _ _ _ _ _ _ _ _ _ (F0 m 38 ls [])
      refine lv_aload_n hx hb d_GK_closeStatement_38 rfl (lv_at hl 0 rfl) ?_
      have h27 : w25 (L 0) = some (.inr (0, [.ref (L 1), .ref (L 2), .ref (L 3), .ref (L 4), .ref (L 5), .ref (L 6), .ref (L 7), .int (((σ.sEc (σ.ec + σ.sc)).sStm σ.now).err), .int (nI (((σ.sEc (σ.ec + σ.sc)).sStm σ.now).sc)), .int (nI (((σ.sEc (σ.ec + σ.sc)).sStm σ.now).ec)), .int (((σ.sEc (σ.ec + σ.sc)).sStm σ.now).ins), .int (((σ.sEc (σ.ec + σ.sc)).sStm σ.now).off)])) := hM.1.2 0 (by decide)
      refine hv_call (hv_runV (As := []) (rest := []) (c_GK_startStatement C N hM hR) (hv_cw C hZ kc_GK_startStatement kn_GK ⟨rfl, rfl, Nat.le_of_ble_eq_true rfl, Nat.le_of_ble_eq_true rfl⟩) hv_blind (hv_pre hZ hS hP) hx hml hb hown (hts _ k_GK_304) (hts _ ki_GK_startStatement) (hts _ ksel_GK_GK_startStatement) hy_GK_startStatement (hts _ kc_GK_startStatement) (va_recv hK (hv_one hP h27) (ci := 0) (q0 := 0) rfl rfl) rfl hl.1 rfl (lv_room (Nat.le_of_ble_eq_true rfl)) d_GK_closeStatement_39 ⟨Nat.le_of_ble_eq_true rfl, Nat.le_of_ble_eq_true rfl⟩) hZ hS (fun v9 w28 H locs q29 hP hS => ?_) (fun x9 w28 H locs q29 hP hS => q29.elim)
      obtain ⟨hv9, P1, hM, hR⟩ := q29
      subst hv9
      show W _ _ _ _ _ _ _ _ _ _ _ _ _ _ _ (F0 m 42 ls [])
      exact hv_vret hQ hx hb hr hZ hS hP hlocks d_GK_closeStatement_42 (⟨rfl, P1, by rw [s_close, if_neg c24, if_neg c4]; exact ⟨hM, hR⟩⟩)

abbrev rm_GK_undoStatement : Room := { frames := 2, cells := 0, slots := 0, locals := 43 }
set_option maxHeartbeats 4000000 in
set_option maxRecDepth 100000 in
theorem c_GK_undoStatement {l : Launch} {s0 : State} {D : va_G} {ca : Nat → ClassId} (C : hv_C l s0 D (hv_tys ca)) {w : hv_W} (N : hv_N s0) {L : Nat → Nat} {w0 : hv_W} {σ : gS} {P : cT} (hM : cK ca L w0 σ P w) (hR : cR ca L σ P w) (hb9 : σ.ec + σ.sc ≤ 249) (ho : ¬ σ.sc = 0 → σ.off = 0)  :
    hv_Met l y_GK_undoStatement [.code y_GK_undoStatement b_GK_undoStatement 1 none] rm_GK_undoStatement (hv_Pc s0 D w [.ref (L 0)]) (hv_Q s0 D (fun v w' => v = none ∧ cP ca L w0 (s_undo σ) w') (fun _ _ => False)) 0 0 (hv_A s0.heap.size) := by
  refine hv_enter C _ (by decide) (Nat.le_of_ble_eq_true rfl) ?_
  intro p e s m below meth c ls Q hQ hx hb hr hml hown hts hK hZ hlocks hname hout htr hP hl
  have hown : s.vm.findClass R_GK = some m.cls := hown
  have hS : va_S (hv_A s0.heap.size) s.heap s.heap [] := va_S.rf
  have hl : lv_has ls 1 [(0, .ref (L 0))] := hl
  refine lv_aload_n hx hb d_GK_undoStatement_0 rfl (lv_at hl 0 rfl) ?_
  have h1 : w (L 0) = some (.inr (0, [.ref (L 1), .ref (L 2), .ref (L 3), .ref (L 4), .ref (L 5), .ref (L 6), .ref (L 7), .int (σ.err), .int (nI (σ.sc)), .int (nI (σ.ec)), .int (σ.ins), .int (σ.off)])) := hM.1.2 0 (by decide)
  refine va_get (D := D) (ci := 0) (v := .int (nI (σ.sc))) (C := R_GK) (T := F_GK) (N := 12) hx hb hts i_GK hown hK (hv_one hP h1) 0 rfl rfl 8 (by decide) (hts _ k_GK_133) (fun _ h9 => h9) rfl d_GK_undoStatement_1 ?_
  refine gk_if_le (x := σ.sc) (tgt := 18) hx hb d_GK_undoStatement_4 (by decide) (by omega) (fun c4 => ?_) (fun c4 => ?_)
  · refine lv_aload_n hx hb d_GK_undoStatement_18 rfl (lv_at hl 0 rfl) ?_
    refine hv_call (hv_runV (As := []) (rest := []) (c_GK_startStatement C N hM hR) (hv_cw C hZ kc_GK_startStatement kn_GK ⟨rfl, rfl, Nat.le_of_ble_eq_true rfl, Nat.le_of_ble_eq_true rfl⟩) hv_blind (hv_pre hZ hS hP) hx hml hb hown (hts _ k_GK_304) (hts _ ki_GK_startStatement) (hts _ ksel_GK_GK_startStatement) hy_GK_startStatement (hts _ kc_GK_startStatement) (va_recv hK (hv_one hP h1) (ci := 0) (q0 := 0) rfl rfl) rfl hl.1 rfl (lv_room (Nat.le_of_ble_eq_true rfl)) d_GK_undoStatement_19 ⟨Nat.le_of_ble_eq_true rfl, Nat.le_of_ble_eq_true rfl⟩) hZ hS (fun v9 w2 H locs q3 hP hS => ?_) (fun x9 w2 H locs q3 hP hS => q3.elim)
    obtain ⟨hv9, P1, hM, hR⟩ := q3
    subst hv9
    show W _ _ _ _ _ _ _ _ _ _ _ _ _ _ _ (F0 m 22 ls [])
    exact hv_vret hQ hx hb hr hZ hS hP hlocks d_GK_undoStatement_22 (⟨rfl, P1, by rw [s_undo, if_pos c4]; exact ⟨hM, hR⟩⟩)
  · refine lv_aload_n hx hb d_GK_undoStatement_7 rfl (lv_at hl 0 rfl) ?_
    refine va_get (D := D) (ci := 0) (v := .ref (L 1)) (C := R_GK) (T := F_GK) (N := 12) hx hb hts i_GK hown hK (hv_one hP h1) 0 rfl rfl 0 (by decide) (hts _ k_GK_10) (fun _ h9 => h9) rfl d_GK_undoStatement_8 ?_
    refine lv_aload_n hx hb d_GK_undoStatement_11 rfl (lv_at hl 0 rfl) ?_
    refine va_get (D := D) (ci := 0) (v := .ref (L 2)) (C := R_GK) (T := F_GK) (N := 12) hx hb hts i_GK hown hK (hv_one hP h1) 0 rfl rfl 1 (by decide) (hts _ k_GK_16) (fun _ h9 => h9) rfl d_GK_undoStatement_12 ?_
    have hoff := ho c4
    have h4 : w (L 1) = some (.inr (1, [.ref (L 8), .ref (L 9)])) := hM.1.2 1 (by decide)
    have h5 : w (L 8) = some (.inl (ca 5, 64, .inr (.inr (.inr (.inr P.nN))))) := hM.1.2 8 (by decide)
    have h6 : w (L 9) = some (.inl (ca 6, 96, .inr (.inr (.inr (.inr P.nL))))) := hM.1.2 9 (by decide)
    have h7 : w (L 2) = some (.inr (1, [.ref (L 10), .ref (L 11)])) := hM.1.2 2 (by decide)
    have h8 : w (L 10) = some (.inl (ca 5, 64, .inr (.inr (.inr (.inr P.aN))))) := hM.1.2 10 (by decide)
    have h9 : w (L 11) = some (.inl (ca 6, 96, .inr (.inr (.inr (.inr P.aL))))) := hM.1.2 11 (by decide)
    refine hv_call (hv_runV (As := [.ref (L 2)]) (rest := []) (c_Gr_copyFrom C h4 h5 h6 h7 h8 h9 (hM.ne (i := 10) (j := 8) (by decide) (by decide) (by decide)) (hM.ne (i := 11) (j := 9) (by decide) (by decide) (by decide)) (hM.ne (i := 9) (j := 8) (by decide) (by decide) (by decide)) (hM.ne (i := 11) (j := 8) (by decide) (by decide) (by decide)) (hM.ne (i := 10) (j := 9) (by decide) (by decide) (by decide)) (cG_kdN (hR.2.1 hoff)) (cG_kdL (hR.2.1 hoff))) (hv_cw C hZ kc_Gr_copyFrom kn_Gr ⟨rfl, rfl, Nat.le_of_ble_eq_true rfl, Nat.le_of_ble_eq_true rfl⟩) hv_blind (hv_pre hZ hS hP) hx hml hb hown (hts _ k_GK_297) (hts _ ki_Gr_copyFrom) (hts _ ksel_Gr_Gr_copyFrom) hy_Gr_copyFrom (hts _ kc_Gr_copyFrom) (va_recv hK (hv_one hP h4) (ci := 1) (q0 := 0) rfl rfl) rfl hl.1 rfl (lv_room (Nat.le_of_ble_eq_true rfl)) d_GK_undoStatement_15 ⟨Nat.le_of_ble_eq_true rfl, Nat.le_of_ble_eq_true rfl⟩) hZ hS (fun v9 w10 H locs q11 hP hS => ?_) (fun x9 w10 H locs q11 hP hS => q11.elim)
    obtain ⟨hv9, f1, f2, u1, u2, u3, u4, uo⟩ := q11
    subst hv9
    have hk9 : g_keep (cM L) w w10 := g_keep.U2 (k1 := 8) (k2 := 9) (by decide) (by decide) uo
    have hM : cK ca L w0 (σ.sNow σ.stm) ((P.sNN f1).sNL f2) w10 := hM.U2 8 9 (by decide) (by decide) (by decide) u1 u2 uo rfl
    have hR9 := hR.k hk9
    have hR : cR ca L (σ.sNow σ.stm) ((P.sNN f1).sNL f2) w10 := ⟨cG_copy (hR9.2.1 hoff) u3 u4, hR9.2.1, hR9.2.2.1, hR9.2.2.2⟩
    show W _ _ _ _ _ _ _ _ _ _ _ _ _ _ _ (F0 m 18 ls [])
    refine lv_aload_n hx hb d_GK_undoStatement_18 rfl (lv_at hl 0 rfl) ?_
    have h12 : w10 (L 0) = some (.inr (0, [.ref (L 1), .ref (L 2), .ref (L 3), .ref (L 4), .ref (L 5), .ref (L 6), .ref (L 7), .int ((σ.sNow σ.stm).err), .int (nI ((σ.sNow σ.stm).sc)), .int (nI ((σ.sNow σ.stm).ec)), .int ((σ.sNow σ.stm).ins), .int ((σ.sNow σ.stm).off)])) := hM.1.2 0 (by decide)
    refine hv_call (hv_runV (As := []) (rest := []) (c_GK_startStatement C N hM hR) (hv_cw C hZ kc_GK_startStatement kn_GK ⟨rfl, rfl, Nat.le_of_ble_eq_true rfl, Nat.le_of_ble_eq_true rfl⟩) hv_blind (hv_pre hZ hS hP) hx hml hb hown (hts _ k_GK_304) (hts _ ki_GK_startStatement) (hts _ ksel_GK_GK_startStatement) hy_GK_startStatement (hts _ kc_GK_startStatement) (va_recv hK (hv_one hP h12) (ci := 0) (q0 := 0) rfl rfl) rfl hl.1 rfl (lv_room (Nat.le_of_ble_eq_true rfl)) d_GK_undoStatement_19 ⟨Nat.le_of_ble_eq_true rfl, Nat.le_of_ble_eq_true rfl⟩) hZ hS (fun v9 w13 H locs q14 hP hS => ?_) (fun x9 w13 H locs q14 hP hS => q14.elim)
    obtain ⟨hv9, P1, hM, hR⟩ := q14
    subst hv9
    show W _ _ _ _ _ _ _ _ _ _ _ _ _ _ _ (F0 m 22 ls [])
    exact hv_vret hQ hx hb hr hZ hS hP hlocks d_GK_undoStatement_22 (⟨rfl, P1, by rw [s_undo, if_neg c4]; exact ⟨hM, hR⟩⟩)

abbrev rm_GK_restoreKept : Room := { frames := 2, cells := 0, slots := 0, locals := 43 }
set_option maxHeartbeats 4000000 in
set_option maxRecDepth 100000 in
theorem c_GK_restoreKept {l : Launch} {s0 : State} {D : va_G} {ca : Nat → ClassId} (C : hv_C l s0 D (hv_tys ca)) {w : hv_W} (N : hv_N s0) {L : Nat → Nat} {w0 : hv_W} {σ : gS} {P : cT} (hM : cK ca L w0 σ P w) (hR : cR ca L (σ.sOff 1) P w)  :
    hv_Met l y_GK_restoreKept [.code y_GK_restoreKept b_GK_restoreKept 1 none] rm_GK_restoreKept (hv_Pc s0 D w [.ref (L 0)]) (hv_Q s0 D (fun v w' => v = none ∧ cP ca L w0 (s_restore σ) w') (fun _ _ => False)) 0 0 (hv_A s0.heap.size) := by
  refine hv_enter C _ (by decide) (Nat.le_of_ble_eq_true rfl) ?_
  intro p e s m below meth c ls Q hQ hx hb hr hml hown hts hK hZ hlocks hname hout htr hP hl
  have hown : s.vm.findClass R_GK = some m.cls := hown
  have hS : va_S (hv_A s0.heap.size) s.heap s.heap [] := va_S.rf
  have hl : lv_has ls 1 [(0, .ref (L 0))] := hl
  refine lv_aload_n hx hb d_GK_restoreKept_0 rfl (lv_at hl 0 rfl) ?_
  have h1 : w (L 0) = some (.inr (0, [.ref (L 1), .ref (L 2), .ref (L 3), .ref (L 4), .ref (L 5), .ref (L 6), .ref (L 7), .int (σ.err), .int (nI (σ.sc)), .int (nI (σ.ec)), .int (σ.ins), .int (σ.off)])) := hM.1.2 0 (by decide)
  refine va_get (D := D) (ci := 0) (v := .ref (L 1)) (C := R_GK) (T := F_GK) (N := 12) hx hb hts i_GK hown hK (hv_one hP h1) 0 rfl rfl 0 (by decide) (hts _ k_GK_10) (fun _ h9 => h9) rfl d_GK_restoreKept_1 ?_
  refine lv_aload_n hx hb d_GK_restoreKept_4 rfl (lv_at hl 0 rfl) ?_
  refine va_get (D := D) (ci := 0) (v := .ref (L 3)) (C := R_GK) (T := F_GK) (N := 12) hx hb hts i_GK hown hK (hv_one hP h1) 0 rfl rfl 2 (by decide) (hts _ k_GK_19) (fun _ h9 => h9) rfl d_GK_restoreKept_5 ?_
  have h2 : w (L 1) = some (.inr (1, [.ref (L 8), .ref (L 9)])) := hM.1.2 1 (by decide)
  have h3 : w (L 8) = some (.inl (ca 5, 64, .inr (.inr (.inr (.inr P.nN))))) := hM.1.2 8 (by decide)
  have h4 : w (L 9) = some (.inl (ca 6, 96, .inr (.inr (.inr (.inr P.nL))))) := hM.1.2 9 (by decide)
  have h5 : w (L 3) = some (.inr (1, [.ref (L 12), .ref (L 13)])) := hM.1.2 3 (by decide)
  have h6 : w (L 12) = some (.inl (ca 5, 64, .inr (.inr (.inr (.inr P.kN))))) := hM.1.2 12 (by decide)
  have h7 : w (L 13) = some (.inl (ca 6, 96, .inr (.inr (.inr (.inr P.kL))))) := hM.1.2 13 (by decide)
  refine hv_call (hv_runV (As := [.ref (L 3)]) (rest := []) (c_Gr_copyFrom C h2 h3 h4 h5 h6 h7 (hM.ne (i := 12) (j := 8) (by decide) (by decide) (by decide)) (hM.ne (i := 13) (j := 9) (by decide) (by decide) (by decide)) (hM.ne (i := 9) (j := 8) (by decide) (by decide) (by decide)) (hM.ne (i := 13) (j := 8) (by decide) (by decide) (by decide)) (hM.ne (i := 12) (j := 9) (by decide) (by decide) (by decide)) (cG_kdN hR.2.2.1) (cG_kdL hR.2.2.1)) (hv_cw C hZ kc_Gr_copyFrom kn_Gr ⟨rfl, rfl, Nat.le_of_ble_eq_true rfl, Nat.le_of_ble_eq_true rfl⟩) hv_blind (hv_pre hZ hS hP) hx hml hb hown (hts _ k_GK_297) (hts _ ki_Gr_copyFrom) (hts _ ksel_Gr_Gr_copyFrom) hy_Gr_copyFrom (hts _ kc_Gr_copyFrom) (va_recv hK (hv_one hP h2) (ci := 1) (q0 := 0) rfl rfl) rfl hl.1 rfl (lv_room (Nat.le_of_ble_eq_true rfl)) d_GK_restoreKept_8 ⟨Nat.le_of_ble_eq_true rfl, Nat.le_of_ble_eq_true rfl⟩) hZ hS (fun v9 w8 H locs q9 hP hS => ?_) (fun x9 w8 H locs q9 hP hS => q9.elim)
  obtain ⟨hv9, u1, u2, u3, u4, u5, u6, uou⟩ := q9
  subst hv9
  have hk9 : g_keep (cM L) w w8 := g_keep.U2 (k1 := 8) (k2 := 9) (by decide) (by decide) uou
  have hM : cK ca L w0 (σ.sNow σ.kept) ((P.sNN u1).sNL u2) w8 := hM.U2 8 9 (by decide) (by decide) (by decide) u3 u4 uou rfl
  have hR9 := hR.k hk9
  have hR : cR ca L ((σ.sNow σ.kept).sOff 1) ((P.sNN u1).sNL u2) w8 := ⟨cG_copy hR9.2.2.1 u5 u6, fun z => absurd z (show ¬ (1 : Int32) = 0 by decide), hR9.2.2.1, hR9.2.2.2⟩
  show W _ _ _ _ _ _ _ _ _ _ _ _ _ _ _ (F0 m 11 ls [])
  refine lv_aload_n hx hb d_GK_restoreKept_11 rfl (lv_at hl 0 rfl) ?_
  have h10 : w8 (L 0) = some (.inr (0, [.ref (L 1), .ref (L 2), .ref (L 3), .ref (L 4), .ref (L 5), .ref (L 6), .ref (L 7), .int ((σ.sNow σ.kept).err), .int (nI ((σ.sNow σ.kept).sc)), .int (nI ((σ.sNow σ.kept).ec)), .int ((σ.sNow σ.kept).ins), .int ((σ.sNow σ.kept).off)])) := hM.1.2 0 (by decide)
  refine va_get (D := D) (ci := 0) (v := .ref (L 2)) (C := R_GK) (T := F_GK) (N := 12) hx hb hts i_GK hown hK (hv_one hP h10) 0 rfl rfl 1 (by decide) (hts _ k_GK_16) (fun _ h9 => h9) rfl d_GK_restoreKept_12 ?_
  refine lv_aload_n hx hb d_GK_restoreKept_15 rfl (lv_at hl 0 rfl) ?_
  refine va_get (D := D) (ci := 0) (v := .ref (L 3)) (C := R_GK) (T := F_GK) (N := 12) hx hb hts i_GK hown hK (hv_one hP h10) 0 rfl rfl 2 (by decide) (hts _ k_GK_19) (fun _ h9 => h9) rfl d_GK_restoreKept_16 ?_
  have h11 : w8 (L 2) = some (.inr (1, [.ref (L 10), .ref (L 11)])) := hM.1.2 2 (by decide)
  have h12 : w8 (L 10) = some (.inl (ca 5, 64, .inr (.inr (.inr (.inr (((P.sNN u1).sNL u2).aN)))))) := hM.1.2 10 (by decide)
  have h13 : w8 (L 11) = some (.inl (ca 6, 96, .inr (.inr (.inr (.inr (((P.sNN u1).sNL u2).aL)))))) := hM.1.2 11 (by decide)
  have h14 : w8 (L 3) = some (.inr (1, [.ref (L 12), .ref (L 13)])) := hM.1.2 3 (by decide)
  have h15 : w8 (L 12) = some (.inl (ca 5, 64, .inr (.inr (.inr (.inr (((P.sNN u1).sNL u2).kN)))))) := hM.1.2 12 (by decide)
  have h16 : w8 (L 13) = some (.inl (ca 6, 96, .inr (.inr (.inr (.inr (((P.sNN u1).sNL u2).kL)))))) := hM.1.2 13 (by decide)
  refine hv_call (hv_runV (As := [.ref (L 3)]) (rest := []) (c_Gr_copyFrom C h11 h12 h13 h14 h15 h16 (hM.ne (i := 12) (j := 10) (by decide) (by decide) (by decide)) (hM.ne (i := 13) (j := 11) (by decide) (by decide) (by decide)) (hM.ne (i := 11) (j := 10) (by decide) (by decide) (by decide)) (hM.ne (i := 13) (j := 10) (by decide) (by decide) (by decide)) (hM.ne (i := 12) (j := 11) (by decide) (by decide) (by decide)) (cG_kdN hR.2.2.1) (cG_kdL hR.2.2.1)) (hv_cw C hZ kc_Gr_copyFrom kn_Gr ⟨rfl, rfl, Nat.le_of_ble_eq_true rfl, Nat.le_of_ble_eq_true rfl⟩) hv_blind (hv_pre hZ hS hP) hx hml hb hown (hts _ k_GK_297) (hts _ ki_Gr_copyFrom) (hts _ ksel_Gr_Gr_copyFrom) hy_Gr_copyFrom (hts _ kc_Gr_copyFrom) (va_recv hK (hv_one hP h11) (ci := 1) (q0 := 0) rfl rfl) rfl hl.1 rfl (lv_room (Nat.le_of_ble_eq_true rfl)) d_GK_restoreKept_19 ⟨Nat.le_of_ble_eq_true rfl, Nat.le_of_ble_eq_true rfl⟩) hZ hS (fun v9 w17 H locs q18 hP hS => ?_) (fun x9 w17 H locs q18 hP hS => q18.elim)
  obtain ⟨hv9, v1, v2, v3, v4, v5, v6, uov⟩ := q18
  subst hv9
  have hk9 : g_keep (cM L) w8 w17 := g_keep.U2 (k1 := 10) (k2 := 11) (by decide) (by decide) uov
  have hM : cK ca L w0 ((σ.sNow σ.kept).sStm σ.kept) ((((P.sNN u1).sNL u2).sAN v1).sAL v2) w17 := hM.U2 10 11 (by decide) (by decide) (by decide) v3 v4 uov rfl
  have hR9 := hR.k hk9
  have hR : cR ca L ((σ.sNow σ.kept).sStm σ.kept) ((((P.sNN u1).sNL u2).sAN v1).sAL v2) w17 := ⟨hR9.1, fun _ => cG_copy hR9.2.2.1 v5 v6, hR9.2.2.1, hR9.2.2.2⟩
  show W _ _ _ _ _ _ _ _ _ _ _ _ _ _ _ (F0 m 22 ls [])
  refine lv_aload_n hx hb d_GK_restoreKept_22 rfl (lv_at hl 0 rfl) ?_
  have h19 : w17 (L 0) = some (.inr (0, [.ref (L 1), .ref (L 2), .ref (L 3), .ref (L 4), .ref (L 5), .ref (L 6), .ref (L 7), .int (((σ.sNow σ.kept).sStm σ.kept).err), .int (nI (((σ.sNow σ.kept).sStm σ.kept).sc)), .int (nI (((σ.sNow σ.kept).sStm σ.kept).ec)), .int (((σ.sNow σ.kept).sStm σ.kept).ins), .int (((σ.sNow σ.kept).sStm σ.kept).off)])) := hM.1.2 0 (by decide)
  refine hv_call (hv_runV (As := []) (rest := []) (c_GK_forgetUnderWay C N hM hR) (hv_cw C hZ kc_GK_forgetUnderWay kn_GK ⟨rfl, rfl, Nat.le_of_ble_eq_true rfl, Nat.le_of_ble_eq_true rfl⟩) hv_blind (hv_pre hZ hS hP) hx hml hb hown (hts _ k_GK_165) (hts _ ki_GK_forgetUnderWay) (hts _ ksel_GK_GK_forgetUnderWay) hy_GK_forgetUnderWay (hts _ kc_GK_forgetUnderWay) (va_recv hK (hv_one hP h19) (ci := 0) (q0 := 0) rfl rfl) rfl hl.1 rfl (lv_room (Nat.le_of_ble_eq_true rfl)) d_GK_restoreKept_23 ⟨Nat.le_of_ble_eq_true rfl, Nat.le_of_ble_eq_true rfl⟩) hZ hS (fun v9 w20 H locs q21 hP hS => ?_) (fun x9 w20 H locs q21 hP hS => q21.elim)
  obtain ⟨hv9, P1, hM, hR⟩ := q21
  subst hv9
  show W _ _ _ _ _ _ _ _ _ _ _ _ _ _ _ (F0 m 26 ls [])
  exact hv_vret hQ hx hb hr hZ hS hP hlocks d_GK_restoreKept_26 (⟨rfl, P1, hM, hR⟩)

abbrev rm_GK_keep : Room := { frames := 6, cells := 1, slots := 6, locals := 82 }
set_option maxHeartbeats 4000000 in
set_option maxRecDepth 100000 in
theorem c_GK_keep {l : Launch} {s0 : State} {D : va_G} {ca : Nat → ClassId} (C : hv_C l s0 D (hv_tys ca)) {w : hv_W} (N : hv_N s0) {L : Nat → Nat} {w0 : hv_W} {σ : gS} {P : cT} (k : Nat) (hM : cK ca L w0 σ P w) (hR : cR ca L σ P w) (hk0 : k ≤ 249) (hd0 : σ.due ≤ 2000) (he0 : σ.en ≤ 250)  :
    hv_Met l y_GK_keep [.code y_GK_keep b_GK_keep 2 none] rm_GK_keep (hv_Pc s0 D w [.ref (L 0), .int (nI k)]) (hv_Q s0 D (fun v w' => v = none ∧ ((k = 0 ∧ w' = w) ∨ (0 < k ∧ ¬ s_cut σ (k + 1) ∧ cP ca L w0 (s_keepO σ k) w'))) (fun x w' => 0 < k ∧ s_cut σ (k + 1) ∧ cThr ca L w0 9 (s_keepF σ) x w')) 1 6 (hv_A s0.heap.size) := by
  refine hv_enter C _ (by decide) (Nat.le_of_ble_eq_true rfl) ?_
  intro p e s m below meth c ls Q hQ hx hb hr hml hown hts hK hZ hlocks hname hout htr hP hl
  have hown : s.vm.findClass R_GK = some m.cls := hown
  have hS : va_S (hv_A s0.heap.size) s.heap s.heap [] := va_S.rf
  have hl : lv_has ls 2 [(0, .ref (L 0)), (1, .int (nI k))] := hl
  refine lv_iload_n hx hb d_GK_keep_0 rfl (lv_at hl 1 rfl) ?_
  refine gk_if_ne (x := k) (tgt := 5) hx hb d_GK_keep_1 (by decide) (by omega) (fun c1 => ?_) (fun c1 => ?_)
  · have hk1 : 0 < k := Nat.pos_of_ne_zero c1
    refine lv_aload_n hx hb d_GK_keep_5 rfl (lv_at hl 0 rfl) ?_
    have h1 : w (L 0) = some (.inr (0, [.ref (L 1), .ref (L 2), .ref (L 3), .ref (L 4), .ref (L 5), .ref (L 6), .ref (L 7), .int (σ.err), .int (nI (σ.sc)), .int (nI (σ.ec)), .int (σ.ins), .int (σ.off)])) := hM.1.2 0 (by decide)
    refine va_get (D := D) (ci := 0) (v := .ref (L 4)) (C := R_GK) (T := F_GK) (N := 12) hx hb hts i_GK hown hK (hv_one hP h1) 0 rfl rfl 3 (by decide) (hts _ k_GK_25) (fun _ h9 => h9) rfl d_GK_keep_6 ?_
    refine lv_iload_n hx hb d_GK_keep_9 rfl (lv_at hl 1 rfl) ?_
    have h2 : w (L 4) = some (.inr (2, [.int (σ.wr), .int (nI (σ.en)), .int (nI (σ.lo)), .int (σ.tr), .int (nI (σ.due))])) := hM.1.2 4 (by decide)
    refine hv_call (hv_runV (As := [.int (nI k)]) (rest := []) (c_Lg_writeTransaction C (nI k) h2) (hv_cw C hZ kc_Lg_writeTransaction kn_Lg ⟨rfl, rfl, Nat.le_of_ble_eq_true rfl, Nat.le_of_ble_eq_true rfl⟩) hv_blind (hv_pre hZ hS hP) hx hml hb hown (hts _ k_GK_292) (hts _ ki_Lg_writeTransaction) (hts _ ksel_Lg_Lg_writeTransaction) hy_Lg_writeTransaction (hts _ kc_Lg_writeTransaction) (va_recv hK (hv_one hP h2) (ci := 2) (q0 := 0) rfl rfl) rfl hl.1 rfl (lv_room (Nat.le_of_ble_eq_true rfl)) d_GK_keep_10 ⟨Nat.le_of_ble_eq_true rfl, Nat.le_of_ble_eq_true rfl⟩) hZ hS (fun v9 w3 H locs q4 hP hS => ?_) (fun x9 w3 H locs q4 hP hS => q4.elim)
    rw [lg_wf_n hk1 (by omega)] at q4
    rcases q4 with ⟨hv9, hc9, hu9⟩ | ⟨hv9, hc9, hu9⟩
    · subst hv9
      have hcut : s_cut σ (k + 1) := (lg_cut_iff hd0 (by omega)).mp hc9
      rw [lg_wn_cut hcut hd0 (by omega), lg_wt_cut hcut hd0 (by omega)] at hu9
      have hR9 := hR.k (g_keep.U (k := 4) (by decide) hu9)
      have hM : cK ca L w0 ((s_wrF σ).sLo (σ.due - 1)) P w3 := hM.U 4 (by decide) hu9 rfl
      have hR : cR ca L ((s_wrF σ).sLo (σ.due - 1)) P w3 := hR9
      show W _ _ _ _ _ _ _ _ _ _ _ _ _ _ _ (F0 m 13 ls [.int 0])
      refine lv_if_ne (tgt := 31) hx hb d_GK_keep_13 (by decide) (fun c13 => ?_) (fun c13 => ?_)
      · exact absurd c13 (by decide)
      · refine lv_aload_n hx hb d_GK_keep_16 rfl (lv_at hl 0 rfl) ?_
        have h5 : w3 (L 0) = some (.inr (0, [.ref (L 1), .ref (L 2), .ref (L 3), .ref (L 4), .ref (L 5), .ref (L 6), .ref (L 7), .int (((s_wrF σ).sLo (σ.due - 1)).err), .int (nI (((s_wrF σ).sLo (σ.due - 1)).sc)), .int (nI (((s_wrF σ).sLo (σ.due - 1)).ec)), .int (((s_wrF σ).sLo (σ.due - 1)).ins), .int (((s_wrF σ).sLo (σ.due - 1)).off)])) := hM.1.2 0 (by decide)
        refine hv_call (hv_runV (As := []) (rest := []) (c_GK_goOff C N hM hR) (hv_cw C hZ kc_GK_goOff kn_GK ⟨rfl, rfl, Nat.le_of_ble_eq_true rfl, Nat.le_of_ble_eq_true rfl⟩) hv_blind (hv_pre hZ hS hP) hx hml hb hown (hts _ k_GK_185) (hts _ ki_GK_goOff) (hts _ ksel_GK_GK_goOff) hy_GK_goOff (hts _ kc_GK_goOff) (va_recv hK (hv_one hP h5) (ci := 0) (q0 := 0) rfl rfl) rfl hl.1 rfl (lv_room (Nat.le_of_ble_eq_true rfl)) d_GK_keep_17 ⟨Nat.le_of_ble_eq_true rfl, Nat.le_of_ble_eq_true rfl⟩) hZ hS (fun v9 w6 H locs q7 hP hS => ?_) (fun x9 w6 H locs q7 hP hS => q7.elim)
        obtain ⟨hv9, P1, hM, hR⟩ := q7
        subst hv9
        show W _ _ _ _ _ _ _ _ _ _ _ _ _ _ _ (F0 m 20 ls [])
        exact hv_throwE C N (E := 9) (Or.inr rfl) 3 kstr_295 hx hb htr hown hK hZ hS hP (hl.1.trans hml.symm) d_GK_keep_20 d_GK_keep_23 (Or.inr ⟨rfl, d_GK_keep_24⟩) d_GK_keep_27 d_GK_keep_30 hout hlocks (Nat.le_of_ble_eq_true rfl) (Nat.le_of_ble_eq_true rfl) (Nat.le_of_ble_eq_true rfl) (Nat.le_of_ble_eq_true rfl) hQ (fun x9 hx9 => ⟨hk1, hcut, cThr.of hM hR hx9⟩)
    · subst hv9
      have hcut : ¬ s_cut σ (k + 1) := fun q => hc9 ((lg_cut_iff hd0 (by omega)).mpr q)
      rw [lg_wn_no hcut hd0 (by omega), lg_wt_no hcut hd0 (by omega), nI_add] at hu9
      have hR9 := hR.k (g_keep.U (k := 4) (by decide) hu9)
      have hM : cK ca L w0 (((s_wrO σ (k + 1)).sEn (σ.en + (k + 1))).sTr (σ.tr + 1)) P w3 := hM.U 4 (by decide) hu9 rfl
      have hR : cR ca L (((s_wrO σ (k + 1)).sEn (σ.en + (k + 1))).sTr (σ.tr + 1)) P w3 := hR9
      show W _ _ _ _ _ _ _ _ _ _ _ _ _ _ _ (F0 m 13 ls [.int 1])
      refine lv_if_ne (tgt := 31) hx hb d_GK_keep_13 (by decide) (fun c13 => ?_) (fun c13 => ?_)
      · refine lv_aload_n hx hb d_GK_keep_31 rfl (lv_at hl 0 rfl) ?_
        have h8 : w3 (L 0) = some (.inr (0, [.ref (L 1), .ref (L 2), .ref (L 3), .ref (L 4), .ref (L 5), .ref (L 6), .ref (L 7), .int ((((s_wrO σ (k + 1)).sEn (σ.en + (k + 1))).sTr (σ.tr + 1)).err), .int (nI ((((s_wrO σ (k + 1)).sEn (σ.en + (k + 1))).sTr (σ.tr + 1)).sc)), .int (nI ((((s_wrO σ (k + 1)).sEn (σ.en + (k + 1))).sTr (σ.tr + 1)).ec)), .int ((((s_wrO σ (k + 1)).sEn (σ.en + (k + 1))).sTr (σ.tr + 1)).ins), .int ((((s_wrO σ (k + 1)).sEn (σ.en + (k + 1))).sTr (σ.tr + 1)).off)])) := hM.1.2 0 (by decide)
        refine va_get (D := D) (ci := 0) (v := .ref (L 3)) (C := R_GK) (T := F_GK) (N := 12) hx hb hts i_GK hown hK (hv_one hP h8) 0 rfl rfl 2 (by decide) (hts _ k_GK_19) (fun _ h9 => h9) rfl d_GK_keep_32 ?_
        refine lv_aload_n hx hb d_GK_keep_35 rfl (lv_at hl 0 rfl) ?_
        refine va_get (D := D) (ci := 0) (v := .ref (L 1)) (C := R_GK) (T := F_GK) (N := 12) hx hb hts i_GK hown hK (hv_one hP h8) 0 rfl rfl 0 (by decide) (hts _ k_GK_10) (fun _ h9 => h9) rfl d_GK_keep_36 ?_
        have h9 : w3 (L 3) = some (.inr (1, [.ref (L 12), .ref (L 13)])) := hM.1.2 3 (by decide)
        have h10 : w3 (L 12) = some (.inl (ca 5, 64, .inr (.inr (.inr (.inr P.kN))))) := hM.1.2 12 (by decide)
        have h11 : w3 (L 13) = some (.inl (ca 6, 96, .inr (.inr (.inr (.inr P.kL))))) := hM.1.2 13 (by decide)
        have h12 : w3 (L 1) = some (.inr (1, [.ref (L 8), .ref (L 9)])) := hM.1.2 1 (by decide)
        have h13 : w3 (L 8) = some (.inl (ca 5, 64, .inr (.inr (.inr (.inr P.nN))))) := hM.1.2 8 (by decide)
        have h14 : w3 (L 9) = some (.inl (ca 6, 96, .inr (.inr (.inr (.inr P.nL))))) := hM.1.2 9 (by decide)
        refine hv_call (hv_runV (As := [.ref (L 1)]) (rest := []) (c_Gr_copyFrom C h9 h10 h11 h12 h13 h14 (hM.ne (i := 8) (j := 12) (by decide) (by decide) (by decide)) (hM.ne (i := 9) (j := 13) (by decide) (by decide) (by decide)) (hM.ne (i := 13) (j := 12) (by decide) (by decide) (by decide)) (hM.ne (i := 9) (j := 12) (by decide) (by decide) (by decide)) (hM.ne (i := 8) (j := 13) (by decide) (by decide) (by decide)) (cG_kdN hR.1) (cG_kdL hR.1)) (hv_cw C hZ kc_Gr_copyFrom kn_Gr ⟨rfl, rfl, Nat.le_of_ble_eq_true rfl, Nat.le_of_ble_eq_true rfl⟩) hv_blind (hv_pre hZ hS hP) hx hml hb hown (hts _ k_GK_297) (hts _ ki_Gr_copyFrom) (hts _ ksel_Gr_Gr_copyFrom) hy_Gr_copyFrom (hts _ kc_Gr_copyFrom) (va_recv hK (hv_one hP h9) (ci := 1) (q0 := 0) rfl rfl) rfl hl.1 rfl (lv_room (Nat.le_of_ble_eq_true rfl)) d_GK_keep_39 ⟨Nat.le_of_ble_eq_true rfl, Nat.le_of_ble_eq_true rfl⟩) hZ hS (fun v9 w15 H locs q16 hP hS => ?_) (fun x9 w15 H locs q16 hP hS => q16.elim)
        obtain ⟨hv9, f1, f2, u1, u2, u3, u4, uo⟩ := q16
        subst hv9
        have hk9 : g_keep (cM L) w3 w15 := g_keep.U2 (k1 := 12) (k2 := 13) (by decide) (by decide) uo
        have hM : cK ca L w0 (s_keepO σ k) ((P.sKN f1).sKL f2) w15 := hM.U2 12 13 (by decide) (by decide) (by decide) u1 u2 uo rfl
        have hR9 := hR.k hk9
        have hR : cR ca L (s_keepO σ k) ((P.sKN f1).sKL f2) w15 := ⟨hR9.1, hR9.2.1, cG_copy hR9.1 u3 u4, hR9.2.2.2⟩
        show W _ _ _ _ _ _ _ _ _ _ _ _ _ _ _ (F0 m 42 ls [])
        refine W.widen (k := 1) (n := 6) (by omega) (by omega) ?_
        exact hv_vret hQ hx hb hr hZ hS hP hlocks d_GK_keep_42 (⟨rfl, Or.inr ⟨hk1, hcut, _, hM, hR⟩⟩)
      · exact absurd c13 (by decide)
  · refine W.widen (k := 1) (n := 6) (by omega) (by omega) ?_
    exact hv_vret hQ hx hb hr hZ hS hP hlocks d_GK_keep_4 (⟨rfl, Or.inl ⟨c1, rfl⟩⟩)

abbrev rm_GK_takeNode : Room := { frames := 8, cells := 1, slots := 6, locals := 123 }
set_option maxHeartbeats 4000000 in
set_option maxRecDepth 100000 in
theorem c_GK_takeNode {l : Launch} {s0 : State} {D : va_G} {ca : Nat → ClassId} (C : hv_C l s0 D (hv_tys ca)) {w : hv_W} (N : hv_N s0) {L : Nat → Nat} {w0 : hv_W} {σ : gS} {P : cT} {i : Nat} (hi : i < 64) (hM : cK ca L w0 σ P w) (hR : cR ca L σ P w) (hb9 : σ.ec + σ.sc ≤ 249)  :
    hv_Met l y_GK_takeNode [.code y_GK_takeNode b_GK_takeNode 2 none] rm_GK_takeNode (hv_Pc s0 D w [.ref (L 0), .int (nI i)]) (hv_Q s0 D (fun v w' => x_cch σ.now (nI i) 1 96 + x_cch σ.now (nI i) 0 96 = 0 ∧ ¬ 249 ≤ σ.ec + σ.sc ∧ v = none ∧ cP ca L w0 (((σ.sSc (σ.sc + 1)).sNow (va_up σ.now i none)).sGone (upd σ.gone i 1)) w') (fun x w' => (¬ x_cch σ.now (nI i) 1 96 + x_cch σ.now (nI i) 0 96 = 0 ∧ cThr ca L w0 8 (σ.sErr 7) x w') ∨ (x_cch σ.now (nI i) 1 96 + x_cch σ.now (nI i) 0 96 = 0 ∧ 249 ≤ σ.ec + σ.sc ∧ cThr ca L w0 8 (σ.sErr 9) x w'))) 1 6 (hv_A s0.heap.size) := by
  refine hv_enter C _ (by decide) (Nat.le_of_ble_eq_true rfl) ?_
  intro p e s m below meth c ls Q hQ hx hb hr hml hown hts hK hZ hlocks hname hout htr hP hl
  have hown : s.vm.findClass R_GK = some m.cls := hown
  have hS : va_S (hv_A s0.heap.size) s.heap s.heap [] := va_S.rf
  have hl : lv_has ls 2 [(0, .ref (L 0)), (1, .int (nI i))] := hl
  refine lv_aload_n hx hb d_GK_takeNode_0 rfl (lv_at hl 0 rfl) ?_
  have h1 : w (L 0) = some (.inr (0, [.ref (L 1), .ref (L 2), .ref (L 3), .ref (L 4), .ref (L 5), .ref (L 6), .ref (L 7), .int (σ.err), .int (nI (σ.sc)), .int (nI (σ.ec)), .int (σ.ins), .int (σ.off)])) := hM.1.2 0 (by decide)
  refine va_get (D := D) (ci := 0) (v := .ref (L 1)) (C := R_GK) (T := F_GK) (N := 12) hx hb hts i_GK hown hK (hv_one hP h1) 0 rfl rfl 0 (by decide) (hts _ k_GK_10) (fun _ h9 => h9) rfl d_GK_takeNode_1 ?_
  refine lv_iload_n hx hb d_GK_takeNode_4 rfl (lv_at hl 1 rfl) ?_
  refine lv_iconst (v := 1) hx hb d_GK_takeNode_5 (by decide) ?_
  have h2 : w (L 1) = some (.inr (1, [.ref (L 8), .ref (L 9)])) := hM.1.2 1 (by decide)
  have h3 : w (L 9) = some (.inl (ca 6, 96, .inr (.inr (.inr (.inr P.nL))))) := hM.1.2 9 (by decide)
  refine hv_call (hv_runV (As := [.int (nI i), .int 1]) (rest := []) (c_Gr_countChain C (nI i) 1 h2 h3 (g_lkf_ok hR.1)) (hv_cw C hZ kc_Gr_countChain kn_Gr ⟨rfl, rfl, Nat.le_of_ble_eq_true rfl, Nat.le_of_ble_eq_true rfl⟩) hv_blind (hv_pre hZ hS hP) hx hml hb hown (hts _ k_GK_284) (hts _ ki_Gr_countChain) (hts _ ksel_Gr_Gr_countChain) hy_Gr_countChain (hts _ kc_Gr_countChain) (va_recv hK (hv_one hP h2) (ci := 1) (q0 := 0) rfl rfl) rfl hl.1 rfl (lv_room (Nat.le_of_ble_eq_true rfl)) d_GK_takeNode_6 ⟨Nat.le_of_ble_eq_true rfl, Nat.le_of_ble_eq_true rfl⟩) hZ hS (fun v9 w4 H locs q5 hP hS => ?_) (fun x9 w4 H locs q5 hP hS => q5.elim)
  rw [g_cch hR.1 (nI i) 1 96 (Nat.le_refl _)] at q5
  obtain ⟨hv9, hw9⟩ := q5
  subst hv9
  rw [hw9] at hP
  show W _ _ _ _ _ _ _ _ _ _ _ _ _ _ _ (F0 m 9 ls [.int (nI (x_cch σ.now (nI i) 1 96))])
  have hle1 := x_cch_le σ.now (nI i) 1 96
  refine lv_aload_n hx hb d_GK_takeNode_9 rfl (lv_at hl 0 rfl) ?_
  refine va_get (D := D) (ci := 0) (v := .ref (L 1)) (C := R_GK) (T := F_GK) (N := 12) hx hb hts i_GK hown hK (hv_one hP h1) 0 rfl rfl 0 (by decide) (hts _ k_GK_10) (fun _ h9 => h9) rfl d_GK_takeNode_10 ?_
  refine lv_iload_n hx hb d_GK_takeNode_13 rfl (lv_at hl 1 rfl) ?_
  refine lv_iconst (v := 0) hx hb d_GK_takeNode_14 (by decide) ?_
  refine hv_call (hv_runV (As := [.int (nI i), .int 0]) (rest := [.int (nI (x_cch σ.now (nI i) 1 96))]) (c_Gr_countChain C (nI i) 0 h2 h3 (g_lkf_ok hR.1)) (hv_cw C hZ kc_Gr_countChain kn_Gr ⟨rfl, rfl, Nat.le_of_ble_eq_true rfl, Nat.le_of_ble_eq_true rfl⟩) hv_blind (hv_pre hZ hS hP) hx hml hb hown (hts _ k_GK_284) (hts _ ki_Gr_countChain) (hts _ ksel_Gr_Gr_countChain) hy_Gr_countChain (hts _ kc_Gr_countChain) (va_recv hK (hv_one hP h2) (ci := 1) (q0 := 0) rfl rfl) rfl hl.1 rfl (lv_room (Nat.le_of_ble_eq_true rfl)) d_GK_takeNode_15 ⟨Nat.le_of_ble_eq_true rfl, Nat.le_of_ble_eq_true rfl⟩) hZ hS (fun v9 w6 H locs q7 hP hS => ?_) (fun x9 w6 H locs q7 hP hS => q7.elim)
  rw [g_cch hR.1 (nI i) 0 96 (Nat.le_refl _)] at q7
  obtain ⟨hv9, hw9⟩ := q7
  subst hv9
  rw [hw9] at hP
  show W _ _ _ _ _ _ _ _ _ _ _ _ _ _ _ (F0 m 18 ls [.int (nI (x_cch σ.now (nI i) 0 96)), .int (nI (x_cch σ.now (nI i) 1 96))])
  have hle0 := x_cch_le σ.now (nI i) 0 96
  refine gk_iadd (x := x_cch σ.now (nI i) 1 96) (y := x_cch σ.now (nI i) 0 96) hx hb d_GK_takeNode_18 ?_
  refine gk_if_le (x := (x_cch σ.now (nI i) 1 96) + (x_cch σ.now (nI i) 0 96)) (tgt := 28) hx hb d_GK_takeNode_19 (by decide) (by omega) (fun c19 => ?_) (fun c19 => ?_)
  · refine lv_aload_n hx hb d_GK_takeNode_28 rfl (lv_at hl 0 rfl) ?_
    refine hv_call (hv_runV (As := []) (rest := []) (c_GK_countChange C N hM hR hb9) (hv_cw C hZ kc_GK_countChange kn_GK ⟨rfl, rfl, Nat.le_of_ble_eq_true rfl, Nat.le_of_ble_eq_true rfl⟩) hv_blind (hv_pre hZ hS hP) hx hml hb hown (hts _ k_GK_54) (hts _ ki_GK_countChange) (hts _ ksel_GK_GK_countChange) hy_GK_countChange (hts _ kc_GK_countChange) (va_recv hK (hv_one hP h1) (ci := 0) (q0 := 0) rfl rfl) rfl hl.1 rfl (lv_room (Nat.le_of_ble_eq_true rfl)) d_GK_takeNode_29 ⟨Nat.le_of_ble_eq_true rfl, Nat.le_of_ble_eq_true rfl⟩) hZ hS (fun v9 w8 H locs q9 hP hS => ?_) (fun x9 w8 H locs q9 hP hS => ?_)
    · obtain ⟨hno9, hv9, hM, hR⟩ := q9
      subst hv9
      show W _ _ _ _ _ _ _ _ _ _ _ _ _ _ _ (F0 m 32 ls [])
      refine lv_aload_n hx hb d_GK_takeNode_32 rfl (lv_at hl 0 rfl) ?_
      have h10 : w8 (L 0) = some (.inr (0, [.ref (L 1), .ref (L 2), .ref (L 3), .ref (L 4), .ref (L 5), .ref (L 6), .ref (L 7), .int ((σ.sSc (σ.sc + 1)).err), .int (nI ((σ.sSc (σ.sc + 1)).sc)), .int (nI ((σ.sSc (σ.sc + 1)).ec)), .int ((σ.sSc (σ.sc + 1)).ins), .int ((σ.sSc (σ.sc + 1)).off)])) := hM.1.2 0 (by decide)
      refine va_get (D := D) (ci := 0) (v := .ref (L 1)) (C := R_GK) (T := F_GK) (N := 12) hx hb hts i_GK hown hK (hv_one hP h10) 0 rfl rfl 0 (by decide) (hts _ k_GK_10) (fun _ h9 => h9) rfl d_GK_takeNode_33 ?_
      refine lv_iload_n hx hb d_GK_takeNode_36 rfl (lv_at hl 1 rfl) ?_
      refine lv_null hx hb d_GK_takeNode_37 ?_
      have h11 : w8 (L 1) = some (.inr (1, [.ref (L 8), .ref (L 9)])) := hM.1.2 1 (by decide)
      have h12 : w8 (L 8) = some (.inl (ca 5, 64, .inr (.inr (.inr (.inr P.nN))))) := hM.1.2 8 (by decide)
      refine hv_call (hv_runV (As := [.int (nI i), .null]) (rest := []) (c_Gr_putNodeN C hi h11 h12) (hv_cw C hZ kc_Gr_putNode kn_Gr ⟨rfl, rfl, Nat.le_of_ble_eq_true rfl, Nat.le_of_ble_eq_true rfl⟩) hv_blind (hv_pre hZ hS hP) hx hml hb hown (hts _ k_GK_64) (hts _ ki_Gr_putNode) (hts _ ksel_Gr_Gr_putNode) hy_Gr_putNode (hts _ kc_Gr_putNode) (va_recv hK (hv_one hP h11) (ci := 1) (q0 := 0) rfl rfl) rfl hl.1 rfl (lv_room (Nat.le_of_ble_eq_true rfl)) d_GK_takeNode_38 ⟨Nat.le_of_ble_eq_true rfl, Nat.le_of_ble_eq_true rfl⟩) hZ hS (fun v9 w13 H locs q14 hP hS => ?_) (fun x9 w13 H locs q14 hP hS => q14.elim)
      obtain ⟨hv9, hu9⟩ := q14
      subst hv9
      have hR9 := hR.k (g_keep.U (k := 8) (by decide) hu9)
      have hM : cK ca L w0 ((σ.sSc (σ.sc + 1)).sNow (va_up σ.now i none)) (P.sNN (va_up P.nN i none)) w13 := hM.U 8 (by decide) hu9 rfl
      have hR : cR ca L ((σ.sSc (σ.sc + 1)).sNow (va_up σ.now i none)) (P.sNN (va_up P.nN i none)) w13 := ⟨cG_delN hR9.1 hi, hR9.2⟩
      show W _ _ _ _ _ _ _ _ _ _ _ _ _ _ _ (F0 m 41 ls [])
      refine lv_aload_n hx hb d_GK_takeNode_41 rfl (lv_at hl 0 rfl) ?_
      have h15 : w13 (L 0) = some (.inr (0, [.ref (L 1), .ref (L 2), .ref (L 3), .ref (L 4), .ref (L 5), .ref (L 6), .ref (L 7), .int (((σ.sSc (σ.sc + 1)).sNow (va_up σ.now i none)).err), .int (nI (((σ.sSc (σ.sc + 1)).sNow (va_up σ.now i none)).sc)), .int (nI (((σ.sSc (σ.sc + 1)).sNow (va_up σ.now i none)).ec)), .int (((σ.sSc (σ.sc + 1)).sNow (va_up σ.now i none)).ins), .int (((σ.sSc (σ.sc + 1)).sNow (va_up σ.now i none)).off)])) := hM.1.2 0 (by decide)
      refine va_get (D := D) (ci := 0) (v := .ref (L 6)) (C := R_GK) (T := F_GK) (N := 12) hx hb hts i_GK hown hK (hv_one hP h15) 0 rfl rfl 5 (by decide) (hts _ k_GK_36) (fun _ h9 => h9) rfl d_GK_takeNode_42 ?_
      refine lv_iload_n hx hb d_GK_takeNode_45 rfl (lv_at hl 1 rfl) ?_
      have h16 : w13 (L 6) = some (.inl (ca 2, 64, .inl ((P.sNN (va_up P.nN i none)).gN))) := hM.1.2 6 (by decide)
      refine hv_call (hv_runS (As := [.ref (L 6), .int (nI i)]) (rest := []) (c_GK_mark C (n := 64) hi (by decide) h16) (hv_cw C hZ kc_GK_mark kn_GK ⟨rfl, rfl, Nat.le_of_ble_eq_true rfl, Nat.le_of_ble_eq_true rfl⟩) hv_blind (hv_pre hZ hS hP) hx hml hb hown (hts _ k_GK_288) (hts _ ki_GK_mark) (hts _ kn_GK) hy_GK_mark (hv_sig (hts _ kc_GK_mark)) rfl hl.1 rfl (lv_room (Nat.le_of_ble_eq_true rfl)) d_GK_takeNode_46 ⟨Nat.le_of_ble_eq_true rfl, Nat.le_of_ble_eq_true rfl⟩) hZ hS (fun v9 w17 H locs q18 hP hS => ?_) (fun x9 w17 H locs q18 hP hS => q18.elim)
      obtain ⟨hv9, hu9⟩ := q18
      subst hv9
      have hR9 := hR.k (g_keep.U (k := 6) (by decide) hu9)
      have hM : cK ca L w0 (((σ.sSc (σ.sc + 1)).sNow (va_up σ.now i none)).sGone (upd σ.gone i 1)) ((P.sNN (va_up P.nN i none)).sGN (upd P.gN i 1)) w17 := hM.U 6 (by decide) hu9 rfl
      have hR : cR ca L (((σ.sSc (σ.sc + 1)).sNow (va_up σ.now i none)).sGone (upd σ.gone i 1)) ((P.sNN (va_up P.nN i none)).sGN (upd P.gN i 1)) w17 := ⟨hR9.1, hR9.2.1, hR9.2.2.1, fun j hj9 => g_mark (hR9.2.2.2.1 j hj9), fun j hj9 => (hR9.2.2.2.2.1 j hj9).trans (pk_un (show 64 + j ≠ i by omega)).symm, hR9.2.2.2.2.2⟩
      show W _ _ _ _ _ _ _ _ _ _ _ _ _ _ _ (F0 m 49 ls [])
      exact hv_vret hQ hx hb hr hZ hS hP hlocks d_GK_takeNode_49 (⟨c19, hno9, rfl, _, hM, hR⟩)
    · exact hv_tleave hQ hZ hS hP hlocks (hout _) (Or.inr ⟨c19, q9⟩)
  · refine lv_aload_n hx hb d_GK_takeNode_22 rfl (lv_at hl 0 rfl) ?_
    refine lv_bipush (v := 7) hx hb d_GK_takeNode_23 (by decide) ?_
    refine hv_call (hv_runV (As := [.int 7]) (rest := []) (c_GK_refuse C N 7 hM hR) (hv_cw C hZ kc_GK_refuse kn_GK ⟨rfl, rfl, Nat.le_of_ble_eq_true rfl, Nat.le_of_ble_eq_true rfl⟩) hv_blind (hv_pre hZ hS hP) hx hml hb hown (hts _ k_GK_262) (hts _ ki_GK_refuse) (hts _ ksel_GK_GK_refuse) hy_GK_refuse (hts _ kc_GK_refuse) (va_recv hK (hv_one hP h1) (ci := 0) (q0 := 0) rfl rfl) rfl hl.1 rfl (lv_room (Nat.le_of_ble_eq_true rfl)) d_GK_takeNode_25 ⟨Nat.le_of_ble_eq_true rfl, Nat.le_of_ble_eq_true rfl⟩) hZ hS (fun v9 w19 H locs q20 hP hS => ?_) (fun x9 w19 H locs q20 hP hS => ?_)
    · exact q20.elim
    · exact hv_tleave hQ hZ hS hP hlocks (hout _) (Or.inl ⟨c19, q20⟩)

abbrev rm_GK_takeLink : Room := { frames := 8, cells := 1, slots := 6, locals := 123 }
set_option maxHeartbeats 4000000 in
set_option maxRecDepth 100000 in
theorem c_GK_takeLink {l : Launch} {s0 : State} {D : va_G} {ca : Nat → ClassId} (C : hv_C l s0 D (hv_tys ca)) {w : hv_W} (N : hv_N s0) {L : Nat → Nat} {w0 : hv_W} {σ : gS} {P : cT} {i : Nat} (hi : i < 96) (hM : cK ca L w0 σ P w) (hR : cR ca L σ P w) (hb9 : σ.ec + σ.sc ≤ 249)  :
    hv_Met l y_GK_takeLink [.code y_GK_takeLink b_GK_takeLink 2 none] rm_GK_takeLink (hv_Pc s0 D w [.ref (L 0), .int (nI i)]) (hv_Q s0 D (fun v w' => ¬ 249 ≤ σ.ec + σ.sc ∧ v = none ∧ cP ca L w0 (((σ.sSc (σ.sc + 1)).sNow (va_up σ.now (64 + i) none)).sGone (upd σ.gone (64 + i) 1)) w') (fun x w' => 249 ≤ σ.ec + σ.sc ∧ cThr ca L w0 8 (σ.sErr 9) x w')) 1 6 (hv_A s0.heap.size) := by
  refine hv_enter C _ (by decide) (Nat.le_of_ble_eq_true rfl) ?_
  intro p e s m below meth c ls Q hQ hx hb hr hml hown hts hK hZ hlocks hname hout htr hP hl
  have hown : s.vm.findClass R_GK = some m.cls := hown
  have hS : va_S (hv_A s0.heap.size) s.heap s.heap [] := va_S.rf
  have hl : lv_has ls 2 [(0, .ref (L 0)), (1, .int (nI i))] := hl
  refine lv_aload_n hx hb d_GK_takeLink_0 rfl (lv_at hl 0 rfl) ?_
  have h1 : w (L 0) = some (.inr (0, [.ref (L 1), .ref (L 2), .ref (L 3), .ref (L 4), .ref (L 5), .ref (L 6), .ref (L 7), .int (σ.err), .int (nI (σ.sc)), .int (nI (σ.ec)), .int (σ.ins), .int (σ.off)])) := hM.1.2 0 (by decide)
  refine hv_call (hv_runV (As := []) (rest := []) (c_GK_countChange C N hM hR hb9) (hv_cw C hZ kc_GK_countChange kn_GK ⟨rfl, rfl, Nat.le_of_ble_eq_true rfl, Nat.le_of_ble_eq_true rfl⟩) hv_blind (hv_pre hZ hS hP) hx hml hb hown (hts _ k_GK_54) (hts _ ki_GK_countChange) (hts _ ksel_GK_GK_countChange) hy_GK_countChange (hts _ kc_GK_countChange) (va_recv hK (hv_one hP h1) (ci := 0) (q0 := 0) rfl rfl) rfl hl.1 rfl (lv_room (Nat.le_of_ble_eq_true rfl)) d_GK_takeLink_1 ⟨Nat.le_of_ble_eq_true rfl, Nat.le_of_ble_eq_true rfl⟩) hZ hS (fun v9 w2 H locs q3 hP hS => ?_) (fun x9 w2 H locs q3 hP hS => ?_)
  · obtain ⟨hno9, hv9, hM, hR⟩ := q3
    subst hv9
    show W _ _ _ _ _ _ _ _ _ _ _ _ _ _ _ (F0 m 4 ls [])
    refine lv_aload_n hx hb d_GK_takeLink_4 rfl (lv_at hl 0 rfl) ?_
    have h4 : w2 (L 0) = some (.inr (0, [.ref (L 1), .ref (L 2), .ref (L 3), .ref (L 4), .ref (L 5), .ref (L 6), .ref (L 7), .int ((σ.sSc (σ.sc + 1)).err), .int (nI ((σ.sSc (σ.sc + 1)).sc)), .int (nI ((σ.sSc (σ.sc + 1)).ec)), .int ((σ.sSc (σ.sc + 1)).ins), .int ((σ.sSc (σ.sc + 1)).off)])) := hM.1.2 0 (by decide)
    refine va_get (D := D) (ci := 0) (v := .ref (L 1)) (C := R_GK) (T := F_GK) (N := 12) hx hb hts i_GK hown hK (hv_one hP h4) 0 rfl rfl 0 (by decide) (hts _ k_GK_10) (fun _ h9 => h9) rfl d_GK_takeLink_5 ?_
    refine lv_iload_n hx hb d_GK_takeLink_8 rfl (lv_at hl 1 rfl) ?_
    refine lv_null hx hb d_GK_takeLink_9 ?_
    have h5 : w2 (L 1) = some (.inr (1, [.ref (L 8), .ref (L 9)])) := hM.1.2 1 (by decide)
    have h6 : w2 (L 9) = some (.inl (ca 6, 96, .inr (.inr (.inr (.inr P.nL))))) := hM.1.2 9 (by decide)
    refine hv_call (hv_runV (As := [.int (nI i), .null]) (rest := []) (c_Gr_putLinkN C hi h5 h6) (hv_cw C hZ kc_Gr_putLink kn_Gr ⟨rfl, rfl, Nat.le_of_ble_eq_true rfl, Nat.le_of_ble_eq_true rfl⟩) hv_blind (hv_pre hZ hS hP) hx hml hb hown (hts _ k_GK_118) (hts _ ki_Gr_putLink) (hts _ ksel_Gr_Gr_putLink) hy_Gr_putLink (hts _ kc_Gr_putLink) (va_recv hK (hv_one hP h5) (ci := 1) (q0 := 0) rfl rfl) rfl hl.1 rfl (lv_room (Nat.le_of_ble_eq_true rfl)) d_GK_takeLink_10 ⟨Nat.le_of_ble_eq_true rfl, Nat.le_of_ble_eq_true rfl⟩) hZ hS (fun v9 w7 H locs q8 hP hS => ?_) (fun x9 w7 H locs q8 hP hS => q8.elim)
    obtain ⟨hv9, hu9⟩ := q8
    subst hv9
    have hR9 := hR.k (g_keep.U (k := 9) (by decide) hu9)
    have hM : cK ca L w0 ((σ.sSc (σ.sc + 1)).sNow (va_up σ.now (64 + i) none)) (P.sNL (va_up P.nL i none)) w7 := hM.U 9 (by decide) hu9 rfl
    have hR : cR ca L ((σ.sSc (σ.sc + 1)).sNow (va_up σ.now (64 + i) none)) (P.sNL (va_up P.nL i none)) w7 := ⟨cG_delL hR9.1 hi, hR9.2⟩
    show W _ _ _ _ _ _ _ _ _ _ _ _ _ _ _ (F0 m 13 ls [])
    refine lv_aload_n hx hb d_GK_takeLink_13 rfl (lv_at hl 0 rfl) ?_
    have h9 : w7 (L 0) = some (.inr (0, [.ref (L 1), .ref (L 2), .ref (L 3), .ref (L 4), .ref (L 5), .ref (L 6), .ref (L 7), .int (((σ.sSc (σ.sc + 1)).sNow (va_up σ.now (64 + i) none)).err), .int (nI (((σ.sSc (σ.sc + 1)).sNow (va_up σ.now (64 + i) none)).sc)), .int (nI (((σ.sSc (σ.sc + 1)).sNow (va_up σ.now (64 + i) none)).ec)), .int (((σ.sSc (σ.sc + 1)).sNow (va_up σ.now (64 + i) none)).ins), .int (((σ.sSc (σ.sc + 1)).sNow (va_up σ.now (64 + i) none)).off)])) := hM.1.2 0 (by decide)
    refine va_get (D := D) (ci := 0) (v := .ref (L 7)) (C := R_GK) (T := F_GK) (N := 12) hx hb hts i_GK hown hK (hv_one hP h9) 0 rfl rfl 6 (by decide) (hts _ k_GK_40) (fun _ h9 => h9) rfl d_GK_takeLink_14 ?_
    refine lv_iload_n hx hb d_GK_takeLink_17 rfl (lv_at hl 1 rfl) ?_
    have h10 : w7 (L 7) = some (.inl (ca 2, 96, .inl ((P.sNL (va_up P.nL i none)).gL))) := hM.1.2 7 (by decide)
    refine hv_call (hv_runS (As := [.ref (L 7), .int (nI i)]) (rest := []) (c_GK_mark C (n := 96) hi (by decide) h10) (hv_cw C hZ kc_GK_mark kn_GK ⟨rfl, rfl, Nat.le_of_ble_eq_true rfl, Nat.le_of_ble_eq_true rfl⟩) hv_blind (hv_pre hZ hS hP) hx hml hb hown (hts _ k_GK_288) (hts _ ki_GK_mark) (hts _ kn_GK) hy_GK_mark (hv_sig (hts _ kc_GK_mark)) rfl hl.1 rfl (lv_room (Nat.le_of_ble_eq_true rfl)) d_GK_takeLink_18 ⟨Nat.le_of_ble_eq_true rfl, Nat.le_of_ble_eq_true rfl⟩) hZ hS (fun v9 w11 H locs q12 hP hS => ?_) (fun x9 w11 H locs q12 hP hS => q12.elim)
    obtain ⟨hv9, hu9⟩ := q12
    subst hv9
    have hR9 := hR.k (g_keep.U (k := 7) (by decide) hu9)
    have hM : cK ca L w0 (((σ.sSc (σ.sc + 1)).sNow (va_up σ.now (64 + i) none)).sGone (upd σ.gone (64 + i) 1)) ((P.sNL (va_up P.nL i none)).sGL (upd P.gL i 1)) w11 := hM.U 7 (by decide) hu9 rfl
    have hR : cR ca L (((σ.sSc (σ.sc + 1)).sNow (va_up σ.now (64 + i) none)).sGone (upd σ.gone (64 + i) 1)) ((P.sNL (va_up P.nL i none)).sGL (upd P.gL i 1)) w11 := ⟨hR9.1, hR9.2.1, hR9.2.2.1, fun j hj9 => (hR9.2.2.2.1 j hj9).trans (pk_un (show j ≠ 64 + i by omega)).symm, fun j hj9 => g_mark2 (hR9.2.2.2.2.1 j hj9), hR9.2.2.2.2.2⟩
    show W _ _ _ _ _ _ _ _ _ _ _ _ _ _ _ (F0 m 21 ls [])
    exact hv_vret hQ hx hb hr hZ hS hP hlocks d_GK_takeLink_21 (⟨hno9, rfl, _, hM, hR⟩)
  · exact hv_tleave hQ hZ hS hP hlocks (hout _) (q3)

