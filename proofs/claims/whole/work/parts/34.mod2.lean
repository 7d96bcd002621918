abbrev rm_Model_propertyOf : Room := { frames := 0, cells := 0, slots := 0, locals := 0 }
set_option maxHeartbeats 4000000 in
set_option maxRecDepth 100000 in
theorem c_Model_propertyOf {l : Launch} {s0 : State} {D : va_G} {ca : Nat → ClassId} (C : hv_C l s0 D (hv_tys ca)) {w : hv_W} {K : Nat → Nat} {w0 : hv_W} {A : mA} {B : mB} {j : Nat} {ps : List gP} (y : Int32) (hj : j < 640) (hM : mK ca K w0 A B w) (hps : mPs B j ps) (hl6 : ps.length ≤ 6) (hnd : (ps.map (fun q => q.1)).Nodup)  :
    hv_Met l y_Model_propertyOf [.code y_Model_propertyOf b_Model_propertyOf 5 (some .int)] rm_Model_propertyOf (hv_Pc s0 D w [.ref (K 0), .int (nI j), .int y]) (hv_Q s0 D (fun v w' => v = some (.int (m_pos j ps y)) ∧ w' = w) (fun _ _ => False)) 0 0 (hv_A s0.heap.size) := by
  refine hv_enter C _ (by decide) (Nat.le_of_ble_eq_true rfl) ?_
  intro p e s m below meth c ls Q hQ hx hb hr hml hown hts hK hZ hlocks hname hout htr hP hl
  have hown : s.vm.findClass R_Model = some m.cls := hown
  have hS : va_S (hv_A s0.heap.size) s.heap s.heap [] := va_S.rf
  have hl : lv_has ls 5 [(0, .ref (K 0)), (1, .int (nI j)), (2, .int y)] := hl
  refine lv_iconst (v := (-1)) hx hb d_Model_propertyOf_0 (by decide) ?_
  refine lv_istore_n (lv' := [(3, .int ((-1))), (0, .ref (K 0)), (1, .int (nI j)), (2, .int y)]) hx hb d_Model_propertyOf_1 rfl hl (by decide) rfl (fun ls hl => ?_)
  refine lv_iconst (v := 0) hx hb d_Model_propertyOf_2 (by decide) ?_
  refine lv_istore (lv' := [(4, .int 0), (3, .int ((-1))), (0, .ref (K 0)), (1, .int (nI j)), (2, .int y)]) hx hb d_Model_propertyOf_3 hl (by decide) rfl (fun ls hl => ?_)
  have h1 : w (K 0) = some (.inr (7, [.int A.thrown, .ref (K 1), .ref (K 2), .ref (K 3), .ref (K 4), .ref (K 5), .ref (K 6), .ref (K 7), .ref (K 8), .ref (K 9), .ref (K 10), .ref (K 11), .ref (K 12), .int (nI A.tapeSize), .ref (K 13), .int A.error, .int A.off, .int A.inside, .int (nI A.changes), .int (nI A.earlier), .int (nI A.logged), .int A.over, .int (nI A.loose), .int A.written, .int (nI A.due)])) := hM.1.2 0 (by decide)
  have h2 : w (K 7) = some (.inl (ca 0, 640, .inl B.propertyMany)) := hM.1.2 7 (by decide)
  have h3 : w (K 8) = some (.inl (ca 0, 3840, .inl B.keys)) := hM.1.2 8 (by decide)
  have lp : ∀ (n9 : Nat) (k : Nat) (r : Int32), ps.length - k < n9 → (k ≤ ps.length) → (r = if g_pos ps y < k then nI (6 * j + g_pos ps y) else -1) → ∀ (H : Heap) (locs : List Loc) (ls : Array Slot), hv_P D classes s0.heap.size w H → va_S (hv_A s0.heap.size) s.heap H locs → lv_has ls 5 [(0, .ref (K 0)), (1, .int (nI j)), (2, .int y), (3, .int r), (4, .int (nI k))] → W p l e rm_Model_propertyOf s m ([.ref (K 0), .int (nI j), .int y] : List Value).toArray below meth c H locs 0 0 Q (F0 m 5 ls []) := by
    intro n9
    induction n9 with
    | zero =>
      intro k r hn9
      exact absurd hn9 (Nat.not_lt_zero _)
    | succ n9 ih =>
      intro k r hn9 hk hrr H locs ls hP hS hl
      refine lv_iload hx hb d_Model_propertyOf_5 (lv_at hl 4 rfl) ?_
      refine lv_aload_n hx hb d_Model_propertyOf_7 rfl (lv_at hl 0 rfl) ?_
      refine va_get (D := D) (ci := 7) (v := .ref (K 7)) (C := R_Model) (T := F_Model) (N := 25) hx hb hts i_Model hown hK (hv_one hP h1) 0 rfl rfl 7 (by decide) (hts _ k_Model_29) (fun _ h9 => h9) rfl d_Model_propertyOf_8 ?_
      refine lv_iload_n hx hb d_Model_propertyOf_11 rfl (lv_at hl 1 rfl) ?_
      refine va_iald hx hb hK (hv_one hP h2) 0 0 rfl rfl (vp_in_nI (n := j) (by omega) (by omega)) d_Model_propertyOf_12 ?_
      rw [nI_clamp (n := j) (by omega)]
      refine lv_topi (fun v9 e9 => ?_)
      have e9 : v9 = nI ps.length := e9.trans (hps.1)
      subst e9
      show W _ _ _ _ _ _ _ _ _ _ _ _ _ _ _ (F0 m 13 ls [.int (nI ps.length), .int (nI k)])
      refine gk_icmp_ge (x := k) (y := ps.length) (tgt := 50) hx hb d_Model_propertyOf_13 (by decide) (by omega) (by omega) (fun c13 => ?_) (fun c13 => ?_)
      · refine lv_iload_n hx hb d_Model_propertyOf_50 rfl (lv_at hl 3 rfl) ?_
        exact hv_iret (v := r) hQ hx hb hr hZ hS hP hlocks d_Model_propertyOf_51 (⟨by rw [hrr, m_pos, show k = ps.length by omega], rfl⟩)
      · obtain ⟨pr, e1, b1, -⟩ := hps.2 k c13
        refine lv_aload_n hx hb d_Model_propertyOf_16 rfl (lv_at hl 0 rfl) ?_
        refine va_get (D := D) (ci := 7) (v := .ref (K 8)) (C := R_Model) (T := F_Model) (N := 25) hx hb hts i_Model hown hK (hv_one hP h1) 0 rfl rfl 8 (by decide) (hts _ k_Model_32) (fun _ h9 => h9) rfl d_Model_propertyOf_17 ?_
        refine lv_bipush (v := 6) hx hb d_Model_propertyOf_20 (by decide) ?_
        refine lv_iload_n hx hb d_Model_propertyOf_22 rfl (lv_at hl 1 rfl) ?_
        refine gk_imul (x := 6) (y := j) hx hb d_Model_propertyOf_23 ?_
        refine lv_iload hx hb d_Model_propertyOf_24 (lv_at hl 4 rfl) ?_
        refine gk_iadd (x := 6 * j) (y := k) hx hb d_Model_propertyOf_26 ?_
        refine va_iald hx hb hK (hv_one hP h3) 0 0 rfl rfl (vp_in_nI (n := (6 * j) + k) (by omega) (by omega)) d_Model_propertyOf_27 ?_
        rw [nI_clamp (n := (6 * j) + k) (by omega)]
        refine lv_iload_n hx hb d_Model_propertyOf_28 rfl (lv_at hl 2 rfl) ?_
        refine lv_icmp_ne (tgt := 42) hx hb d_Model_propertyOf_29 (by decide) (fun c29 => ?_) (fun c29 => ?_)
        · refine lv_iload_n hx hb d_Model_propertyOf_42 rfl (lv_at hl 3 rfl) ?_
          refine lv_istore_n (lv' := [(3, .int r), (0, .ref (K 0)), (1, .int (nI j)), (2, .int y), (4, .int (nI k))]) hx hb d_Model_propertyOf_43 rfl hl (by decide) rfl (fun ls hl => ?_)
          refine lv_iinc (v := (nI (k + 1))) (lv' := [(4, .int ((nI (k + 1)))), (3, .int r), (0, .ref (K 0)), (1, .int (nI j)), (2, .int y)]) hx hb d_Model_propertyOf_44 hl (k := 4) rfl (nI_add k 1) (by decide) rfl (fun ls hl => ?_)
          refine lv_goto (tgt := 5) hx hb d_Model_propertyOf_47 (by decide) ?_
          exact ih (k + 1) r (by omega) (by omega) (hrr.trans (m_pos_step (fun z => c29 (by rw [b1]; exact (g_pos_at hnd e1).mpr z))).symm) _ _ _ hP hS (lv_sub hl [2, 3, 4, 1, 0] rfl)
        · refine lv_bipush (v := 6) hx hb d_Model_propertyOf_32 (by decide) ?_
          refine lv_iload_n hx hb d_Model_propertyOf_34 rfl (lv_at hl 1 rfl) ?_
          refine gk_imul (x := 6) (y := j) hx hb d_Model_propertyOf_35 ?_
          refine lv_iload hx hb d_Model_propertyOf_36 (lv_at hl 4 rfl) ?_
          refine gk_iadd (x := 6 * j) (y := k) hx hb d_Model_propertyOf_38 ?_
          refine lv_goto (tgt := 43) hx hb d_Model_propertyOf_39 (by decide) ?_
          refine lv_istore_n (lv' := [(3, .int (nI ((6 * j) + k))), (0, .ref (K 0)), (1, .int (nI j)), (2, .int y), (4, .int (nI k))]) hx hb d_Model_propertyOf_43 rfl hl (by decide) rfl (fun ls hl => ?_)
          refine lv_iinc (v := (nI (k + 1))) (lv' := [(4, .int ((nI (k + 1)))), (3, .int (nI ((6 * j) + k))), (0, .ref (K 0)), (1, .int (nI j)), (2, .int y)]) hx hb d_Model_propertyOf_44 hl (k := 4) rfl (nI_add k 1) (by decide) rfl (fun ls hl => ?_)
          refine lv_goto (tgt := 5) hx hb d_Model_propertyOf_47 (by decide) ?_
          exact ih (k + 1) (nI (6 * j + k)) (by omega) (by omega) (by have z := (g_pos_at hnd e1).mp (b1.symm.trans c29); rw [if_pos (by omega), z]) _ _ _ hP hS (lv_sub hl [2, 3, 4, 1, 0] rfl)
  exact lp _ 0 ((-1)) (Nat.lt_succ_self _) (Nat.zero_le _) (by rw [if_neg (Nat.not_lt_zero _)]) _ _ _ hP hS (lv_sub hl [2, 3, 4, 1, 0] rfl)

abbrev rm_Model_isLabeled : Room := { frames := 0, cells := 0, slots := 0, locals := 0 }
set_option maxHeartbeats 4000000 in
set_option maxRecDepth 100000 in
theorem c_Model_isLabeled {l : Launch} {s0 : State} {D : va_G} {ca : Nat → ClassId} (C : hv_C l s0 D (hv_tys ca)) {w : hv_W} {K : Nat → Nat} {w0 : hv_W} {A : mA} {B : mB} {j : Nat} {xs : List Int32} (y : Int32) (hj : j < 640) (hM : mK ca K w0 A B w) (hls : mLs B j xs) (hl4 : xs.length ≤ 4)  :
    hv_Met l y_Model_isLabeled [.code y_Model_isLabeled b_Model_isLabeled 5 (some .boolean)] rm_Model_isLabeled (hv_Pc s0 D w [.ref (K 0), .int (nI j), .int y]) (hv_Q s0 D (fun v w' => v = some (.int (if y ∈ xs then 1 else 0)) ∧ w' = w) (fun _ _ => False)) 0 0 (hv_A s0.heap.size) := by
  refine hv_enter C _ (by decide) (Nat.le_of_ble_eq_true rfl) ?_
  intro p e s m below meth c ls Q hQ hx hb hr hml hown hts hK hZ hlocks hname hout htr hP hl
  have hown : s.vm.findClass R_Model = some m.cls := hown
  have hS : va_S (hv_A s0.heap.size) s.heap s.heap [] := va_S.rf
  have hl : lv_has ls 5 [(0, .ref (K 0)), (1, .int (nI j)), (2, .int y)] := hl
  refine lv_iconst (v := 0) hx hb d_Model_isLabeled_0 (by decide) ?_
  refine lv_istore_n (lv' := [(3, .int 0), (0, .ref (K 0)), (1, .int (nI j)), (2, .int y)]) hx hb d_Model_isLabeled_1 rfl hl (by decide) rfl (fun ls hl => ?_)
  refine lv_iconst (v := 0) hx hb d_Model_isLabeled_2 (by decide) ?_
  refine lv_istore (lv' := [(4, .int 0), (3, .int 0), (0, .ref (K 0)), (1, .int (nI j)), (2, .int y)]) hx hb d_Model_isLabeled_3 hl (by decide) rfl (fun ls hl => ?_)
  have h1 : w (K 0) = some (.inr (7, [.int A.thrown, .ref (K 1), .ref (K 2), .ref (K 3), .ref (K 4), .ref (K 5), .ref (K 6), .ref (K 7), .ref (K 8), .ref (K 9), .ref (K 10), .ref (K 11), .ref (K 12), .int (nI A.tapeSize), .ref (K 13), .int A.error, .int A.off, .int A.inside, .int (nI A.changes), .int (nI A.earlier), .int (nI A.logged), .int A.over, .int (nI A.loose), .int A.written, .int (nI A.due)])) := hM.1.2 0 (by decide)
  have h2 : w (K 5) = some (.inl (ca 0, 640, .inl B.labelMany)) := hM.1.2 5 (by decide)
  have h3 : w (K 6) = some (.inl (ca 0, 2560, .inl B.labels)) := hM.1.2 6 (by decide)
  have lp : ∀ (n9 : Nat) (k : Nat) (r : Int32), xs.length - k < n9 → (k ≤ xs.length) → (r = if y ∈ xs.take k then 1 else 0) → ∀ (H : Heap) (locs : List Loc) (ls : Array Slot), hv_P D classes s0.heap.size w H → va_S (hv_A s0.heap.size) s.heap H locs → lv_has ls 5 [(0, .ref (K 0)), (1, .int (nI j)), (2, .int y), (3, .int r), (4, .int (nI k))] → W p l e rm_Model_isLabeled s m ([.ref (K 0), .int (nI j), .int y] : List Value).toArray below meth c H locs 0 0 Q (F0 m 5 ls []) := by
    intro n9
    induction n9 with
    | zero =>
      intro k r hn9
      exact absurd hn9 (Nat.not_lt_zero _)
    | succ n9 ih =>
      intro k r hn9 hk hrr H locs ls hP hS hl
      refine lv_iload hx hb d_Model_isLabeled_5 (lv_at hl 4 rfl) ?_
      refine lv_aload_n hx hb d_Model_isLabeled_7 rfl (lv_at hl 0 rfl) ?_
      refine va_get (D := D) (ci := 7) (v := .ref (K 5)) (C := R_Model) (T := F_Model) (N := 25) hx hb hts i_Model hown hK (hv_one hP h1) 0 rfl rfl 5 (by decide) (hts _ k_Model_23) (fun _ h9 => h9) rfl d_Model_isLabeled_8 ?_
      refine lv_iload_n hx hb d_Model_isLabeled_11 rfl (lv_at hl 1 rfl) ?_
      refine va_iald hx hb hK (hv_one hP h2) 0 0 rfl rfl (vp_in_nI (n := j) (by omega) (by omega)) d_Model_isLabeled_12 ?_
      rw [nI_clamp (n := j) (by omega)]
      refine lv_topi (fun v9 e9 => ?_)
      have e9 : v9 = nI xs.length := e9.trans (hls.1)
      subst e9
      show W _ _ _ _ _ _ _ _ _ _ _ _ _ _ _ (F0 m 13 ls [.int (nI xs.length), .int (nI k)])
      refine gk_icmp_ge (x := k) (y := xs.length) (tgt := 47) hx hb d_Model_isLabeled_13 (by decide) (by omega) (by omega) (fun c13 => ?_) (fun c13 => ?_)
      · refine lv_iload_n hx hb d_Model_isLabeled_47 rfl (lv_at hl 3 rfl) ?_
        exact hv_zret (v := r) hQ hx hb hr (by rw [hrr]; split <;> decide) hZ hS hP hlocks d_Model_isLabeled_48 (⟨by rw [hrr, List.take_of_length_le (by omega)], rfl⟩)
      · refine lv_iload_n hx hb d_Model_isLabeled_16 rfl (lv_at hl 3 rfl) ?_
        refine lv_if_ne (tgt := 35) hx hb d_Model_isLabeled_17 (by decide) (fun c17 => ?_) (fun c17 => ?_)
        · refine lv_iconst (v := 1) hx hb d_Model_isLabeled_35 (by decide) ?_
          refine lv_goto (tgt := 40) hx hb d_Model_isLabeled_36 (by decide) ?_
          refine lv_istore_n (lv' := [(3, .int 1), (0, .ref (K 0)), (1, .int (nI j)), (2, .int y), (4, .int (nI k))]) hx hb d_Model_isLabeled_40 rfl hl (by decide) rfl (fun ls hl => ?_)
          refine lv_iinc (v := (nI (k + 1))) (lv' := [(4, .int ((nI (k + 1)))), (3, .int 1), (0, .ref (K 0)), (1, .int (nI j)), (2, .int y)]) hx hb d_Model_isLabeled_41 hl (k := 4) rfl (nI_add k 1) (by decide) rfl (fun ls hl => ?_)
          refine lv_goto (tgt := 5) hx hb d_Model_isLabeled_44 (by decide) ?_
          exact ih (k + 1) 1 (by omega) (by omega) (by rw [if_pos ((m_take_s c13 y).mpr (Or.inl (Classical.byContradiction fun z => c17 (hrr.trans (if_neg z)))))]) _ _ _ hP hS (lv_sub hl [2, 3, 4, 1, 0] rfl)
        · refine lv_aload_n hx hb d_Model_isLabeled_20 rfl (lv_at hl 0 rfl) ?_
          refine va_get (D := D) (ci := 7) (v := .ref (K 6)) (C := R_Model) (T := F_Model) (N := 25) hx hb hts i_Model hown hK (hv_one hP h1) 0 rfl rfl 6 (by decide) (hts _ k_Model_26) (fun _ h9 => h9) rfl d_Model_isLabeled_21 ?_
          refine lv_iconst (v := 4) hx hb d_Model_isLabeled_24 (by decide) ?_
          refine lv_iload_n hx hb d_Model_isLabeled_25 rfl (lv_at hl 1 rfl) ?_
          refine gk_imul (x := 4) (y := j) hx hb d_Model_isLabeled_26 ?_
          refine lv_iload hx hb d_Model_isLabeled_27 (lv_at hl 4 rfl) ?_
          refine gk_iadd (x := 4 * j) (y := k) hx hb d_Model_isLabeled_29 ?_
          refine va_iald hx hb hK (hv_one hP h3) 0 0 rfl rfl (vp_in_nI (n := (4 * j) + k) (by omega) (by omega)) d_Model_isLabeled_30 ?_
          rw [nI_clamp (n := (4 * j) + k) (by omega)]
          refine lv_iload_n hx hb d_Model_isLabeled_31 rfl (lv_at hl 2 rfl) ?_
          refine lv_icmp_ne (tgt := 39) hx hb d_Model_isLabeled_32 (by decide) (fun c32 => ?_) (fun c32 => ?_)
          · refine lv_iconst (v := 0) hx hb d_Model_isLabeled_39 (by decide) ?_
            refine lv_istore_n (lv' := [(3, .int 0), (0, .ref (K 0)), (1, .int (nI j)), (2, .int y), (4, .int (nI k))]) hx hb d_Model_isLabeled_40 rfl hl (by decide) rfl (fun ls hl => ?_)
            refine lv_iinc (v := (nI (k + 1))) (lv' := [(4, .int ((nI (k + 1)))), (3, .int 0), (0, .ref (K 0)), (1, .int (nI j)), (2, .int y)]) hx hb d_Model_isLabeled_41 hl (k := 4) rfl (nI_add k 1) (by decide) rfl (fun ls hl => ?_)
            refine lv_goto (tgt := 5) hx hb d_Model_isLabeled_44 (by decide) ?_
            exact ih (k + 1) 0 (by omega) (by omega) (by rw [if_neg (fun z => ((m_take_s c13 y).mp z).elim (fun z1 => by rw [hrr, if_pos z1] at c17; exact absurd c17 (by decide)) (fun z2 => c32 ((hls.2 k c13).trans z2)))]) _ _ _ hP hS (lv_sub hl [2, 3, 4, 1, 0] rfl)
          · refine lv_iconst (v := 1) hx hb d_Model_isLabeled_35 (by decide) ?_
            refine lv_goto (tgt := 40) hx hb d_Model_isLabeled_36 (by decide) ?_
            refine lv_istore_n (lv' := [(3, .int 1), (0, .ref (K 0)), (1, .int (nI j)), (2, .int y), (4, .int (nI k))]) hx hb d_Model_isLabeled_40 rfl hl (by decide) rfl (fun ls hl => ?_)
            refine lv_iinc (v := (nI (k + 1))) (lv' := [(4, .int ((nI (k + 1)))), (3, .int 1), (0, .ref (K 0)), (1, .int (nI j)), (2, .int y)]) hx hb d_Model_isLabeled_41 hl (k := 4) rfl (nI_add k 1) (by decide) rfl (fun ls hl => ?_)
            refine lv_goto (tgt := 5) hx hb d_Model_isLabeled_44 (by decide) ?_
            exact ih (k + 1) 1 (by omega) (by omega) (by rw [if_pos ((m_take_s c13 y).mpr (Or.inr ((hls.2 k c13).symm.trans c32)))]) _ _ _ hP hS (lv_sub hl [2, 3, 4, 1, 0] rfl)
  exact lp _ 0 0 (Nat.lt_succ_self _) (Nat.zero_le _) (by rw [if_neg (by simp)]) _ _ _ hP hS (lv_sub hl [2, 3, 4, 1, 0] rfl)

abbrev rm_Model_links : Room := { frames := 0, cells := 0, slots := 0, locals := 0 }
set_option maxHeartbeats 4000000 in
set_option maxRecDepth 100000 in
theorem c_Model_links {l : Launch} {s0 : State} {D : va_G} {ca : Nat → ClassId} (C : hv_C l s0 D (hv_tys ca)) {w : hv_W} {K : Nat → Nat} {w0 : hv_W} {A : mA} {B : mB} {γ : Nat → Option gT} (n o : Int32) (hM : mK ca K w0 A B w) (hG : mG B 0 γ)  :
    hv_Met l y_Model_links [.code y_Model_links b_Model_links 5 (some .int)] rm_Model_links (hv_Pc s0 D w [.ref (K 0), .int n, .int o]) (hv_Q s0 D (fun v w' => v = some (.int (nI (x_cch γ n o 96))) ∧ w' = w) (fun _ _ => False)) 0 0 (hv_A s0.heap.size) := by
  refine hv_enter C _ (by decide) (Nat.le_of_ble_eq_true rfl) ?_
  intro p e s m below meth c ls Q hQ hx hb hr hml hown hts hK hZ hlocks hname hout htr hP hl
  have hown : s.vm.findClass R_Model = some m.cls := hown
  have hS : va_S (hv_A s0.heap.size) s.heap s.heap [] := va_S.rf
  have hl : lv_has ls 5 [(0, .ref (K 0)), (1, .int n), (2, .int o)] := hl
  refine lv_iconst (v := 0) hx hb d_Model_links_0 (by decide) ?_
  refine lv_istore_n (lv' := [(3, .int 0), (0, .ref (K 0)), (1, .int n), (2, .int o)]) hx hb d_Model_links_1 rfl hl (by decide) rfl (fun ls hl => ?_)
  refine lv_bipush (v := 64) hx hb d_Model_links_2 (by decide) ?_
  refine lv_istore (lv' := [(4, .int 64), (3, .int 0), (0, .ref (K 0)), (1, .int n), (2, .int o)]) hx hb d_Model_links_4 hl (by decide) rfl (fun ls hl => ?_)
  have h1 : w (K 0) = some (.inr (7, [.int A.thrown, .ref (K 1), .ref (K 2), .ref (K 3), .ref (K 4), .ref (K 5), .ref (K 6), .ref (K 7), .ref (K 8), .ref (K 9), .ref (K 10), .ref (K 11), .ref (K 12), .int (nI A.tapeSize), .ref (K 13), .int A.error, .int A.off, .int A.inside, .int (nI A.changes), .int (nI A.earlier), .int (nI A.logged), .int A.over, .int (nI A.loose), .int A.written, .int (nI A.due)])) := hM.1.2 0 (by decide)
  have h2 : w (K 1) = some (.inl (ca 2, 640, .inl B.there)) := hM.1.2 1 (by decide)
  have h3 : w (K 2) = some (.inl (ca 0, 640, .inl B.starts)) := hM.1.2 2 (by decide)
  have h4 : w (K 3) = some (.inl (ca 0, 640, .inl B.ends)) := hM.1.2 3 (by decide)
  have lp : ∀ (n9 : Nat) (k : Nat), 96 - k < n9 → (k ≤ 96) → (x_cch γ n o k ≤ k) → ∀ (H : Heap) (locs : List Loc) (ls : Array Slot), hv_P D classes s0.heap.size w H → va_S (hv_A s0.heap.size) s.heap H locs → lv_has ls 5 [(0, .ref (K 0)), (1, .int n), (2, .int o), (3, .int (nI (x_cch γ n o k))), (4, .int (nI (64 + k)))] → W p l e rm_Model_links s m ([.ref (K 0), .int n, .int o] : List Value).toArray below meth c H locs 0 0 Q (F0 m 6 ls []) := by
    intro n9
    induction n9 with
    | zero =>
      intro k hn9
      exact absurd hn9 (Nat.not_lt_zero _)
    | succ n9 ih =>
      intro k hn9 hk hle H locs ls hP hS hl
      refine lv_iload hx hb d_Model_links_6 (lv_at hl 4 rfl) ?_
      refine lv_sipush (v := 160) hx hb d_Model_links_8 (by decide) ?_
      refine gk_icmp_ge (x := 64 + k) (y := 160) (tgt := 63) hx hb d_Model_links_11 (by decide) (by omega) (by omega) (fun c11 => ?_) (fun c11 => ?_)
      · refine lv_iload_n hx hb d_Model_links_63 rfl (lv_at hl 3 rfl) ?_
        exact hv_iret (v := nI (x_cch γ n o k)) hQ hx hb hr hZ hS hP hlocks d_Model_links_64 (⟨by rw [show k = 96 by omega], rfl⟩)
      · have hT := mG0 hG (e := 64 + k) (by omega)
        refine lv_iload_n hx hb d_Model_links_14 rfl (lv_at hl 3 rfl) ?_
        refine lv_aload_n hx hb d_Model_links_15 rfl (lv_at hl 0 rfl) ?_
        refine va_get (D := D) (ci := 7) (v := .ref (K 1)) (C := R_Model) (T := F_Model) (N := 25) hx hb hts i_Model hown hK (hv_one hP h1) 0 rfl rfl 1 (by decide) (hts _ k_Model_7) (fun _ h9 => h9) rfl d_Model_links_16 ?_
        refine lv_iload hx hb d_Model_links_19 (lv_at hl 4 rfl) ?_
        refine va_zald hx hb hK (hv_one hP h2) 0 2 rfl rfl (vp_in_nI (n := 64 + k) (by omega) (by omega)) d_Model_links_21 ?_
        rw [nI_clamp (n := 64 + k) (by omega)]
        refine lv_if_eq (tgt := 54) hx hb d_Model_links_22 (by decide) (fun c22 => ?_) (fun c22 => ?_)
        · have hxi : x_inch γ k n o = 0 := by rw [x_inch, mT_none hT c22]
          refine lv_iconst (v := 0) hx hb d_Model_links_54 (by decide) ?_
          refine gk_iadd (x := x_cch γ n o k) (y := 0) hx hb d_Model_links_55 ?_
          refine lv_topi (fun v9 e9 => ?_)
          have e9 : v9 = nI (x_cch γ n o (k + 1)) := e9.trans (by rw [x_cch, hxi])
          subst e9
          show W _ _ _ _ _ _ _ _ _ _ _ _ _ _ _ (F0 m 56 ls [.int (nI (x_cch γ n o (k + 1)))])
          refine lv_istore_n (lv' := [(3, .int (nI (x_cch γ n o (k + 1)))), (0, .ref (K 0)), (1, .int n), (2, .int o), (4, .int (nI (64 + k)))]) hx hb d_Model_links_56 rfl hl (by decide) rfl (fun ls hl => ?_)
          refine lv_iinc (v := (nI (64 + (k + 1)))) (lv' := [(4, .int ((nI (64 + (k + 1))))), (3, .int (nI (x_cch γ n o (k + 1)))), (0, .ref (K 0)), (1, .int n), (2, .int o)]) hx hb d_Model_links_57 hl (k := 4) rfl (nI_add (64 + k) 1) (by decide) rfl (fun ls hl => ?_)
          refine lv_goto (tgt := 6) hx hb d_Model_links_60 (by decide) ?_
          exact ih (k + 1) (by omega) (by omega) (x_cch_le γ n o (k + 1)) _ _ _ hP hS (lv_sub hl [2, 3, 4, 1, 0] rfl)
        · obtain ⟨t, ht, -, -, -, hse⟩ := mT_some hT c22
          have hse := hse (by omega)
          refine lv_iload_n hx hb d_Model_links_25 rfl (lv_at hl 2 rfl) ?_
          refine lv_if_eq (tgt := 39) hx hb d_Model_links_26 (by decide) (fun c26 => ?_) (fun c26 => ?_)
          · refine lv_aload_n hx hb d_Model_links_39 rfl (lv_at hl 0 rfl) ?_
            refine va_get (D := D) (ci := 7) (v := .ref (K 3)) (C := R_Model) (T := F_Model) (N := 25) hx hb hts i_Model hown hK (hv_one hP h1) 0 rfl rfl 3 (by decide) (hts _ k_Model_17) (fun _ h9 => h9) rfl d_Model_links_40 ?_
            refine lv_iload hx hb d_Model_links_43 (lv_at hl 4 rfl) ?_
            refine va_iald hx hb hK (hv_one hP h4) 0 0 rfl rfl (vp_in_nI (n := 64 + k) (by omega) (by omega)) d_Model_links_45 ?_
            rw [nI_clamp (n := 64 + k) (by omega)]
            refine lv_iload_n hx hb d_Model_links_46 rfl (lv_at hl 1 rfl) ?_
            refine lv_icmp_ne (tgt := 54) hx hb d_Model_links_47 (by decide) (fun c47 => ?_) (fun c47 => ?_)
            · have hxi : x_inch γ k n o = 0 := by rw [x_inch, ht]; dsimp only; rw [if_neg (fun z => c47 (by rw [if_pos c26] at z; exact hse.2.1.trans z))]
              refine lv_iconst (v := 0) hx hb d_Model_links_54 (by decide) ?_
              refine gk_iadd (x := x_cch γ n o k) (y := 0) hx hb d_Model_links_55 ?_
              refine lv_topi (fun v9 e9 => ?_)
              have e9 : v9 = nI (x_cch γ n o (k + 1)) := e9.trans (by rw [x_cch, hxi])
              subst e9
              show W _ _ _ _ _ _ _ _ _ _ _ _ _ _ _ (F0 m 56 ls [.int (nI (x_cch γ n o (k + 1)))])
              refine lv_istore_n (lv' := [(3, .int (nI (x_cch γ n o (k + 1)))), (0, .ref (K 0)), (1, .int n), (2, .int o), (4, .int (nI (64 + k)))]) hx hb d_Model_links_56 rfl hl (by decide) rfl (fun ls hl => ?_)
              refine lv_iinc (v := (nI (64 + (k + 1)))) (lv' := [(4, .int ((nI (64 + (k + 1))))), (3, .int (nI (x_cch γ n o (k + 1)))), (0, .ref (K 0)), (1, .int n), (2, .int o)]) hx hb d_Model_links_57 hl (k := 4) rfl (nI_add (64 + k) 1) (by decide) rfl (fun ls hl => ?_)
              refine lv_goto (tgt := 6) hx hb d_Model_links_60 (by decide) ?_
              exact ih (k + 1) (by omega) (by omega) (x_cch_le γ n o (k + 1)) _ _ _ hP hS (lv_sub hl [2, 3, 4, 1, 0] rfl)
            · have hxi : x_inch γ k n o = 1 := by rw [x_inch, ht]; dsimp only; rw [if_pos c26, if_pos (hse.2.1.symm.trans c47)]
              refine lv_iconst (v := 1) hx hb d_Model_links_50 (by decide) ?_
              refine lv_goto (tgt := 55) hx hb d_Model_links_51 (by decide) ?_
              refine gk_iadd (x := x_cch γ n o k) (y := 1) hx hb d_Model_links_55 ?_
              refine lv_topi (fun v9 e9 => ?_)
              have e9 : v9 = nI (x_cch γ n o (k + 1)) := e9.trans (by rw [x_cch, hxi])
              subst e9
              show W _ _ _ _ _ _ _ _ _ _ _ _ _ _ _ (F0 m 56 ls [.int (nI (x_cch γ n o (k + 1)))])
              refine lv_istore_n (lv' := [(3, .int (nI (x_cch γ n o (k + 1)))), (0, .ref (K 0)), (1, .int n), (2, .int o), (4, .int (nI (64 + k)))]) hx hb d_Model_links_56 rfl hl (by decide) rfl (fun ls hl => ?_)
              refine lv_iinc (v := (nI (64 + (k + 1)))) (lv' := [(4, .int ((nI (64 + (k + 1))))), (3, .int (nI (x_cch γ n o (k + 1)))), (0, .ref (K 0)), (1, .int n), (2, .int o)]) hx hb d_Model_links_57 hl (k := 4) rfl (nI_add (64 + k) 1) (by decide) rfl (fun ls hl => ?_)
              refine lv_goto (tgt := 6) hx hb d_Model_links_60 (by decide) ?_
              exact ih (k + 1) (by omega) (by omega) (x_cch_le γ n o (k + 1)) _ _ _ hP hS (lv_sub hl [2, 3, 4, 1, 0] rfl)
          · refine lv_aload_n hx hb d_Model_links_29 rfl (lv_at hl 0 rfl) ?_
            refine va_get (D := D) (ci := 7) (v := .ref (K 2)) (C := R_Model) (T := F_Model) (N := 25) hx hb hts i_Model hown hK (hv_one hP h1) 0 rfl rfl 2 (by decide) (hts _ k_Model_13) (fun _ h9 => h9) rfl d_Model_links_30 ?_
            refine lv_iload hx hb d_Model_links_33 (lv_at hl 4 rfl) ?_
            refine va_iald hx hb hK (hv_one hP h3) 0 0 rfl rfl (vp_in_nI (n := 64 + k) (by omega) (by omega)) d_Model_links_35 ?_
            rw [nI_clamp (n := 64 + k) (by omega)]
            refine lv_goto (tgt := 46) hx hb d_Model_links_36 (by decide) ?_
            refine lv_iload_n hx hb d_Model_links_46 rfl (lv_at hl 1 rfl) ?_
            refine lv_icmp_ne (tgt := 54) hx hb d_Model_links_47 (by decide) (fun c47 => ?_) (fun c47 => ?_)
            · have hxi : x_inch γ k n o = 0 := by rw [x_inch, ht]; dsimp only; rw [if_neg (fun z => c47 (by rw [if_neg c26] at z; exact hse.1.trans z))]
              refine lv_iconst (v := 0) hx hb d_Model_links_54 (by decide) ?_
              refine gk_iadd (x := x_cch γ n o k) (y := 0) hx hb d_Model_links_55 ?_
              refine lv_topi (fun v9 e9 => ?_)
              have e9 : v9 = nI (x_cch γ n o (k + 1)) := e9.trans (by rw [x_cch, hxi])
              subst e9
              show W _ _ _ _ _ _ _ _ _ _ _ _ _ _ _ (F0 m 56 ls [.int (nI (x_cch γ n o (k + 1)))])
              refine lv_istore_n (lv' := [(3, .int (nI (x_cch γ n o (k + 1)))), (0, .ref (K 0)), (1, .int n), (2, .int o), (4, .int (nI (64 + k)))]) hx hb d_Model_links_56 rfl hl (by decide) rfl (fun ls hl => ?_)
              refine lv_iinc (v := (nI (64 + (k + 1)))) (lv' := [(4, .int ((nI (64 + (k + 1))))), (3, .int (nI (x_cch γ n o (k + 1)))), (0, .ref (K 0)), (1, .int n), (2, .int o)]) hx hb d_Model_links_57 hl (k := 4) rfl (nI_add (64 + k) 1) (by decide) rfl (fun ls hl => ?_)
              refine lv_goto (tgt := 6) hx hb d_Model_links_60 (by decide) ?_
              exact ih (k + 1) (by omega) (by omega) (x_cch_le γ n o (k + 1)) _ _ _ hP hS (lv_sub hl [2, 3, 4, 1, 0] rfl)
            · have hxi : x_inch γ k n o = 1 := by rw [x_inch, ht]; dsimp only; rw [if_neg c26, if_pos (hse.1.symm.trans c47)]
              refine lv_iconst (v := 1) hx hb d_Model_links_50 (by decide) ?_
              refine lv_goto (tgt := 55) hx hb d_Model_links_51 (by decide) ?_
              refine gk_iadd (x := x_cch γ n o k) (y := 1) hx hb d_Model_links_55 ?_
              refine lv_topi (fun v9 e9 => ?_)
              have e9 : v9 = nI (x_cch γ n o (k + 1)) := e9.trans (by rw [x_cch, hxi])
              subst e9
              show W _ _ _ _ _ _ _ _ _ _ _ _ _ _ _ (F0 m 56 ls [.int (nI (x_cch γ n o (k + 1)))])
              refine lv_istore_n (lv' := [(3, .int (nI (x_cch γ n o (k + 1)))), (0, .ref (K 0)), (1, .int n), (2, .int o), (4, .int (nI (64 + k)))]) hx hb d_Model_links_56 rfl hl (by decide) rfl (fun ls hl => ?_)
              refine lv_iinc (v := (nI (64 + (k + 1)))) (lv' := [(4, .int ((nI (64 + (k + 1))))), (3, .int (nI (x_cch γ n o (k + 1)))), (0, .ref (K 0)), (1, .int n), (2, .int o)]) hx hb d_Model_links_57 hl (k := 4) rfl (nI_add (64 + k) 1) (by decide) rfl (fun ls hl => ?_)
              refine lv_goto (tgt := 6) hx hb d_Model_links_60 (by decide) ?_
              exact ih (k + 1) (by omega) (by omega) (x_cch_le γ n o (k + 1)) _ _ _ hP hS (lv_sub hl [2, 3, 4, 1, 0] rfl)
  exact lp _ 0 (Nat.lt_succ_self _) (Nat.zero_le _) (Nat.le_refl 0) _ _ _ hP hS (lv_sub hl [2, 3, 4, 1, 0] rfl)

abbrev rm_Model_free : Room := { frames := 0, cells := 0, slots := 0, locals := 0 }
set_option maxHeartbeats 4000000 in
set_option maxRecDepth 100000 in
theorem c_Model_free {l : Launch} {s0 : State} {D : va_G} {ca : Nat → ClassId} (C : hv_C l s0 D (hv_tys ca)) {w : hv_W} {K : Nat → Nat} {w0 : hv_W} {A : mA} {B : mB} {γ : Nat → Option gT} {gone : Nat → Int32} {lo n : Nat} (hM : mK ca K w0 A B w) (hln : lo + n ≤ 160) (hG : mG B 0 γ) (hgo : ∀ i, i < 160 → A.taken i = gone i)  :
    hv_Met l y_Model_free [.code y_Model_free b_Model_free 4 (some .int)] rm_Model_free (hv_Pc s0 D w [.ref (K 0), .int (nI lo), .int (nI (lo + n))]) (hv_Q s0 D (fun v w' => v = some (.int (m_fr γ gone lo n)) ∧ w' = w) (fun _ _ => False)) 0 0 (hv_A s0.heap.size) := by
  refine hv_enter C _ (by decide) (Nat.le_of_ble_eq_true rfl) ?_
  intro p e s m below meth c ls Q hQ hx hb hr hml hown hts hK hZ hlocks hname hout htr hP hl
  have hown : s.vm.findClass R_Model = some m.cls := hown
  have hS : va_S (hv_A s0.heap.size) s.heap s.heap [] := va_S.rf
  have hl : lv_has ls 4 [(0, .ref (K 0)), (1, .int (nI lo)), (2, .int (nI (lo + n)))] := hl
  refine lv_iload_n hx hb d_Model_free_0 rfl (lv_at hl 1 rfl) ?_
  refine lv_istore_n (lv' := [(3, .int (nI lo)), (0, .ref (K 0)), (1, .int (nI lo)), (2, .int (nI (lo + n)))]) hx hb d_Model_free_1 rfl hl (by decide) rfl (fun ls hl => ?_)
  have h1 : w (K 0) = some (.inr (7, [.int A.thrown, .ref (K 1), .ref (K 2), .ref (K 3), .ref (K 4), .ref (K 5), .ref (K 6), .ref (K 7), .ref (K 8), .ref (K 9), .ref (K 10), .ref (K 11), .ref (K 12), .int (nI A.tapeSize), .ref (K 13), .int A.error, .int A.off, .int A.inside, .int (nI A.changes), .int (nI A.earlier), .int (nI A.logged), .int A.over, .int (nI A.loose), .int A.written, .int (nI A.due)])) := hM.1.2 0 (by decide)
  have h2 : w (K 1) = some (.inl (ca 2, 640, .inl B.there)) := hM.1.2 1 (by decide)
  have h3 : w (K 12) = some (.inl (ca 2, 160, .inl A.taken)) := hM.1.2 12 (by decide)
  have lp : ∀ (n9 : Nat) (k : Nat), n - k < n9 → (k ≤ n) → (∀ i, i < k → ¬ (γ (lo + i) = none ∧ gone (lo + i) = 0)) → ∀ (H : Heap) (locs : List Loc) (ls : Array Slot), hv_P D classes s0.heap.size w H → va_S (hv_A s0.heap.size) s.heap H locs → lv_has ls 4 [(0, .ref (K 0)), (1, .int (nI lo)), (2, .int (nI (lo + n))), (3, .int (nI (lo + k)))] → W p l e rm_Model_free s m ([.ref (K 0), .int (nI lo), .int (nI (lo + n))] : List Value).toArray below meth c H locs 0 0 Q (F0 m 2 ls []) := by
    intro n9
    induction n9 with
    | zero =>
      intro k hn9
      exact absurd hn9 (Nat.not_lt_zero _)
    | succ n9 ih =>
      intro k hn9 hk hj H locs ls hP hS hl
      refine lv_iload_n hx hb d_Model_free_2 rfl (lv_at hl 3 rfl) ?_
      refine lv_iload_n hx hb d_Model_free_3 rfl (lv_at hl 2 rfl) ?_
      refine gk_icmp_ge (x := lo + k) (y := lo + n) (tgt := 31) hx hb d_Model_free_4 (by decide) (by omega) (by omega) (fun c4 => ?_) (fun c4 => ?_)
      · refine lv_iload_n hx hb d_Model_free_31 rfl (lv_at hl 3 rfl) ?_
        refine lv_iload_n hx hb d_Model_free_32 rfl (lv_at hl 2 rfl) ?_
        refine gk_icmp_ge (x := lo + k) (y := lo + n) (tgt := 40) hx hb d_Model_free_33 (by decide) (by omega) (by omega) (fun c33 => ?_) (fun c33 => ?_)
        · refine lv_iconst (v := (-1)) hx hb d_Model_free_40 (by decide) ?_
          exact hv_iret (v := (-1)) hQ hx hb hr hZ hS hP hlocks d_Model_free_41 (⟨by rw [m_fr, x_free_none (fun i hi => hj i (by omega))], rfl⟩)
        · exact absurd c33 (by omega)
      · have hT := mG0 hG (e := lo + k) (by omega)
        refine lv_aload_n hx hb d_Model_free_7 rfl (lv_at hl 0 rfl) ?_
        refine va_get (D := D) (ci := 7) (v := .ref (K 1)) (C := R_Model) (T := F_Model) (N := 25) hx hb hts i_Model hown hK (hv_one hP h1) 0 rfl rfl 1 (by decide) (hts _ k_Model_7) (fun _ h9 => h9) rfl d_Model_free_8 ?_
        refine lv_iload_n hx hb d_Model_free_11 rfl (lv_at hl 3 rfl) ?_
        refine va_zald hx hb hK (hv_one hP h2) 0 2 rfl rfl (vp_in_nI (n := lo + k) (by omega) (by omega)) d_Model_free_12 ?_
        rw [nI_clamp (n := lo + k) (by omega)]
        refine lv_if_ne (tgt := 25) hx hb d_Model_free_13 (by decide) (fun c13 => ?_) (fun c13 => ?_)
        · refine lv_iinc (v := (nI (lo + (k + 1)))) (lv' := [(3, .int ((nI (lo + (k + 1))))), (0, .ref (K 0)), (1, .int (nI lo)), (2, .int (nI (lo + n)))]) hx hb d_Model_free_25 hl (k := 3) rfl (nI_add (lo + k) 1) (by decide) rfl (fun ls hl => ?_)
          refine lv_goto (tgt := 2) hx hb d_Model_free_28 (by decide) ?_
          exact ih (k + 1) (by omega) (by omega) (lt_s hj (fun z => by obtain ⟨t, ht, -⟩ := mT_some hT c13; rw [ht] at z; cases z.1)) _ _ _ hP hS (lv_sub hl [1, 2, 3, 0] rfl)
        · refine lv_aload_n hx hb d_Model_free_16 rfl (lv_at hl 0 rfl) ?_
          refine va_get (D := D) (ci := 7) (v := .ref (K 12)) (C := R_Model) (T := F_Model) (N := 25) hx hb hts i_Model hown hK (hv_one hP h1) 0 rfl rfl 12 (by decide) (hts _ k_Model_45) (fun _ h9 => h9) rfl d_Model_free_17 ?_
          refine lv_iload_n hx hb d_Model_free_20 rfl (lv_at hl 3 rfl) ?_
          refine va_zald hx hb hK (hv_one hP h3) 0 2 rfl rfl (vp_in_nI (n := lo + k) (by omega) (by omega)) d_Model_free_21 ?_
          rw [nI_clamp (n := lo + k) (by omega)]
          refine lv_if_eq (tgt := 31) hx hb d_Model_free_22 (by decide) (fun c22 => ?_) (fun c22 => ?_)
          · refine lv_iload_n hx hb d_Model_free_31 rfl (lv_at hl 3 rfl) ?_
            refine lv_iload_n hx hb d_Model_free_32 rfl (lv_at hl 2 rfl) ?_
            refine gk_icmp_ge (x := lo + k) (y := lo + n) (tgt := 40) hx hb d_Model_free_33 (by decide) (by omega) (by omega) (fun c33 => ?_) (fun c33 => ?_)
            · exact absurd c33 (by omega)
            · refine lv_iload_n hx hb d_Model_free_36 rfl (lv_at hl 3 rfl) ?_
              refine lv_goto (tgt := 41) hx hb d_Model_free_37 (by decide) ?_
              exact hv_iret (v := nI (lo + k)) hQ hx hb hr hZ hS hP hlocks d_Model_free_41 (⟨by rw [m_fr, x_free_some (by omega) (mT_none hT c13) ((hgo _ (by omega)).symm.trans c22) hj], rfl⟩)
          · refine lv_iinc (v := (nI (lo + (k + 1)))) (lv' := [(3, .int ((nI (lo + (k + 1))))), (0, .ref (K 0)), (1, .int (nI lo)), (2, .int (nI (lo + n)))]) hx hb d_Model_free_25 hl (k := 3) rfl (nI_add (lo + k) 1) (by decide) rfl (fun ls hl => ?_)
            refine lv_goto (tgt := 2) hx hb d_Model_free_28 (by decide) ?_
            exact ih (k + 1) (by omega) (by omega) (lt_s hj (fun z => c22 ((hgo _ (by omega)).trans z.2))) _ _ _ hP hS (lv_sub hl [1, 2, 3, 0] rfl)
  exact lp _ 0 (Nat.lt_succ_self _) (Nat.zero_le _) (fun j q => absurd q (Nat.not_lt_zero _)) _ _ _ hP hS (lv_sub hl [1, 2, 3, 0] rfl)

abbrev rm_Model_fails : Room := { frames := 0, cells := 0, slots := 0, locals := 0 }
set_option maxHeartbeats 4000000 in
set_option maxRecDepth 100000 in
theorem c_Model_fails {l : Launch} {s0 : State} {D : va_G} {ca : Nat → ClassId} (C : hv_C l s0 D (hv_tys ca)) {w : hv_W} {K : Nat → Nat} {w0 : hv_W} {A : mA} {B : mB} (a1 a2 a3 a4 a5 : Int32) (hM : mK ca K w0 A B w) (hb9 : A.earlier + A.changes ≤ 249)  :
    hv_Met l y_Model_fails [.code y_Model_fails b_Model_fails 7 (some .boolean)] rm_Model_fails (hv_Pc s0 D w [.ref (K 0), .int a1, .int a2, .int a3, .int a4, .int a5]) (hv_Q s0 D (fun v w' => (¬ A.off = 0 ∧ v = some (.int 1) ∧ mK ca K w0 (A.sThrown 2) B w') ∨ (A.off = 0 ∧ m_fe A.earlier A.changes a1 a2 a3 a4 a5 = 0 ∧ v = some (.int 0) ∧ mK ca K w0 (A.sThrown 0) B w') ∨ (A.off = 0 ∧ ¬ m_fe A.earlier A.changes a1 a2 a3 a4 a5 = 0 ∧ v = some (.int 1) ∧ mK ca K w0 ((A.sError (m_fe A.earlier A.changes a1 a2 a3 a4 a5)).sThrown 1) B w')) (fun _ _ => False)) 0 0 (hv_A s0.heap.size) := by
  refine hv_enter C _ (by decide) (Nat.le_of_ble_eq_true rfl) ?_
  intro p e s m below meth c ls Q hQ hx hb hr hml hown hts hK hZ hlocks hname hout htr hP hl
  have hown : s.vm.findClass R_Model = some m.cls := hown
  have hS : va_S (hv_A s0.heap.size) s.heap s.heap [] := va_S.rf
  have hl : lv_has ls 7 [(0, .ref (K 0)), (1, .int a1), (2, .int a2), (3, .int a3), (4, .int a4), (5, .int a5)] := hl
  refine lv_aload_n hx hb d_Model_fails_0 rfl (lv_at hl 0 rfl) ?_
  have h1 : w (K 0) = some (.inr (7, [.int A.thrown, .ref (K 1), .ref (K 2), .ref (K 3), .ref (K 4), .ref (K 5), .ref (K 6), .ref (K 7), .ref (K 8), .ref (K 9), .ref (K 10), .ref (K 11), .ref (K 12), .int (nI A.tapeSize), .ref (K 13), .int A.error, .int A.off, .int A.inside, .int (nI A.changes), .int (nI A.earlier), .int (nI A.logged), .int A.over, .int (nI A.loose), .int A.written, .int (nI A.due)])) := hM.1.2 0 (by decide)
  refine va_get (D := D) (ci := 7) (v := .int A.off) (C := R_Model) (T := F_Model) (N := 25) hx hb hts i_Model hown hK (hv_one hP h1) 0 rfl rfl 16 (by decide) (hts _ k_Model_62) (fun _ h9 => h9) rfl d_Model_fails_1 ?_
  refine lv_if_eq (tgt := 14) hx hb d_Model_fails_4 (by decide) (fun c4 => ?_) (fun c4 => ?_)
  · refine lv_iload_n hx hb d_Model_fails_14 rfl (lv_at hl 1 rfl) ?_
    refine lv_if_eq (tgt := 23) hx hb d_Model_fails_15 (by decide) (fun c15 => ?_) (fun c15 => ?_)
    · refine lv_iload_n hx hb d_Model_fails_23 rfl (lv_at hl 2 rfl) ?_
      refine lv_if_eq (tgt := 31) hx hb d_Model_fails_24 (by decide) (fun c24 => ?_) (fun c24 => ?_)
      · refine lv_iload_n hx hb d_Model_fails_31 rfl (lv_at hl 3 rfl) ?_
        refine lv_if_eq (tgt := 40) hx hb d_Model_fails_32 (by decide) (fun c32 => ?_) (fun c32 => ?_)
        · refine lv_iload hx hb d_Model_fails_40 (lv_at hl 4 rfl) ?_
          refine lv_if_eq (tgt := 50) hx hb d_Model_fails_42 (by decide) (fun c42 => ?_) (fun c42 => ?_)
          · refine lv_iload hx hb d_Model_fails_50 (lv_at hl 5 rfl) ?_
            refine lv_if_eq (tgt := 75) hx hb d_Model_fails_52 (by decide) (fun c52 => ?_) (fun c52 => ?_)
            · refine lv_iconst (v := 0) hx hb d_Model_fails_75 (by decide) ?_
              refine lv_istore (lv' := [(6, .int 0), (0, .ref (K 0)), (1, .int a1), (2, .int a2), (3, .int a3), (4, .int a4), (5, .int a5)]) hx hb d_Model_fails_76 hl (by decide) rfl (fun ls hl => ?_)
              refine lv_aload_n hx hb d_Model_fails_78 rfl (lv_at hl 1 rfl) ?_
              refine lv_iload hx hb d_Model_fails_79 (lv_at hl 0 rfl) ?_
              refine lv_if_le (tgt := 89) hx hb d_Model_fails_81 (by decide) (fun c81 => ?_) (fun c81 => ?_)
              · refine lv_aload_n hx hb d_Model_fails_89 rfl (lv_at hl 1 rfl) ?_
                refine va_get (D := D) (ci := 7) (v := .int A.error) (C := R_Model) (T := F_Model) (N := 25) hx hb hts i_Model hown hK (hv_one hP h1) 0 rfl rfl 15 (by decide) (hts _ k_Model_69) (fun _ h9 => h9) rfl d_Model_fails_90 ?_
                refine hv_put (D := D) (ci := 7) (v := .int A.error) (ty := .int) (C := R_Model) (T := F_Model) (N := 25) hx hb hts i_Model t_Model t_Model_ok n_Model hown hK hP hS h1 rfl 15 (by decide) (hts _ k_Model_69) (fun _ h9 => h9) rfl (by decide +kernel) rfl rfl (Nat.le_of_ble_eq_true rfl) d_Model_fails_93 (fun H locs hP hS => ?_)
                obtain ⟨w2, ew2⟩ : ∃ z9 : hv_W, z9 = va_up w (K 0) (some (.inr (7, [.int A.thrown, .ref (K 1), .ref (K 2), .ref (K 3), .ref (K 4), .ref (K 5), .ref (K 6), .ref (K 7), .ref (K 8), .ref (K 9), .ref (K 10), .ref (K 11), .ref (K 12), .int (nI A.tapeSize), .ref (K 13), .int A.error, .int A.off, .int A.inside, .int (nI A.changes), .int (nI A.earlier), .int (nI A.logged), .int A.over, .int (nI A.loose), .int A.written, .int (nI A.due)]))) := ⟨_, rfl⟩
                have hP : hv_P D classes s0.heap.size w2 H := by rw [ew2]; exact hP
                have hM : mK ca K w0 A B w2 := by rw [ew2]; exact hM.put 0 (by decide) rfl
                have h3 : w2 (K 0) = some (.inr (7, [.int A.thrown, .ref (K 1), .ref (K 2), .ref (K 3), .ref (K 4), .ref (K 5), .ref (K 6), .ref (K 7), .ref (K 8), .ref (K 9), .ref (K 10), .ref (K 11), .ref (K 12), .int (nI A.tapeSize), .ref (K 13), .int A.error, .int A.off, .int A.inside, .int (nI A.changes), .int (nI A.earlier), .int (nI A.logged), .int A.over, .int (nI A.loose), .int A.written, .int (nI A.due)])) := by rw [ew2]; exact hv_up_s
                refine lv_aload_n hx hb d_Model_fails_96 rfl (lv_at hl 1 rfl) ?_
                refine lv_iload hx hb d_Model_fails_97 (lv_at hl 0 rfl) ?_
                refine lv_if_le (tgt := 106) hx hb d_Model_fails_99 (by decide) (fun c99 => ?_) (fun c99 => ?_)
                · refine lv_iconst (v := 0) hx hb d_Model_fails_106 (by decide) ?_
                  refine hv_put (D := D) (ci := 7) (v := .int 0) (ty := .int) (C := R_Model) (T := F_Model) (N := 25) hx hb hts i_Model t_Model t_Model_ok n_Model hown hK hP hS h3 rfl 0 (by decide) (hts _ k_Model_51) (fun _ h9 => h9) rfl (by decide +kernel) rfl rfl (Nat.le_of_ble_eq_true rfl) d_Model_fails_107 (fun H locs hP hS => ?_)
                  obtain ⟨w4, ew4⟩ : ∃ z9 : hv_W, z9 = va_up w2 (K 0) (some (.inr (7, [.int 0, .ref (K 1), .ref (K 2), .ref (K 3), .ref (K 4), .ref (K 5), .ref (K 6), .ref (K 7), .ref (K 8), .ref (K 9), .ref (K 10), .ref (K 11), .ref (K 12), .int (nI A.tapeSize), .ref (K 13), .int A.error, .int A.off, .int A.inside, .int (nI A.changes), .int (nI A.earlier), .int (nI A.logged), .int A.over, .int (nI A.loose), .int A.written, .int (nI A.due)]))) := ⟨_, rfl⟩
                  have hP : hv_P D classes s0.heap.size w4 H := by rw [ew4]; exact hP
                  have hM : mK ca K w0 (A.sThrown 0) B w4 := by rw [ew4]; exact hM.put 0 (by decide) rfl
                  have h5 : w4 (K 0) = some (.inr (7, [.int 0, .ref (K 1), .ref (K 2), .ref (K 3), .ref (K 4), .ref (K 5), .ref (K 6), .ref (K 7), .ref (K 8), .ref (K 9), .ref (K 10), .ref (K 11), .ref (K 12), .int (nI A.tapeSize), .ref (K 13), .int A.error, .int A.off, .int A.inside, .int (nI A.changes), .int (nI A.earlier), .int (nI A.logged), .int A.over, .int (nI A.loose), .int A.written, .int (nI A.due)])) := by rw [ew4]; exact hv_up_s
                  refine lv_iload hx hb d_Model_fails_110 (lv_at hl 0 rfl) ?_
                  refine lv_if_le (tgt := 119) hx hb d_Model_fails_112 (by decide) (fun c112 => ?_) (fun c112 => ?_)
                  · refine lv_iconst (v := 0) hx hb d_Model_fails_119 (by decide) ?_
                    exact hv_zret (v := 0) hQ hx hb hr (by decide) hZ hS hP hlocks d_Model_fails_120 (Or.inr (Or.inl ⟨c4, by rw [m_fe, if_neg (fun z => z c15), if_neg (fun z => z c24), if_neg (fun z => z c32), if_neg (fun z => z c42), if_neg (fun z => z.1 c52)], rfl, hM⟩))
                  · exact absurd c112 (by decide)
                · exact absurd c99 (by decide)
              · exact absurd c81 (by decide)
            · refine lv_aload_n hx hb d_Model_fails_55 rfl (lv_at hl 0 rfl) ?_
              refine va_get (D := D) (ci := 7) (v := .int (nI A.earlier)) (C := R_Model) (T := F_Model) (N := 25) hx hb hts i_Model hown hK (hv_one hP h1) 0 rfl rfl 19 (by decide) (hts _ k_Model_66) (fun _ h9 => h9) rfl d_Model_fails_56 ?_
              refine lv_aload_n hx hb d_Model_fails_59 rfl (lv_at hl 0 rfl) ?_
              refine va_get (D := D) (ci := 7) (v := .int (nI A.changes)) (C := R_Model) (T := F_Model) (N := 25) hx hb hts i_Model hown hK (hv_one hP h1) 0 rfl rfl 18 (by decide) (hts _ k_Model_59) (fun _ h9 => h9) rfl d_Model_fails_60 ?_
              refine gk_iadd (x := A.earlier) (y := A.changes) hx hb d_Model_fails_63 ?_
              refine lv_sipush (v := 249) hx hb d_Model_fails_64 (by decide) ?_
              refine gk_icmp_ne (x := A.earlier + A.changes) (y := 249) (tgt := 75) hx hb d_Model_fails_67 (by decide) (by omega) (by omega) (fun c67 => ?_) (fun c67 => ?_)
              · refine lv_iconst (v := 0) hx hb d_Model_fails_75 (by decide) ?_
                refine lv_istore (lv' := [(6, .int 0), (0, .ref (K 0)), (1, .int a1), (2, .int a2), (3, .int a3), (4, .int a4), (5, .int a5)]) hx hb d_Model_fails_76 hl (by decide) rfl (fun ls hl => ?_)
                refine lv_aload_n hx hb d_Model_fails_78 rfl (lv_at hl 1 rfl) ?_
                refine lv_iload hx hb d_Model_fails_79 (lv_at hl 0 rfl) ?_
                refine lv_if_le (tgt := 89) hx hb d_Model_fails_81 (by decide) (fun c81 => ?_) (fun c81 => ?_)
                · refine lv_aload_n hx hb d_Model_fails_89 rfl (lv_at hl 1 rfl) ?_
                  refine va_get (D := D) (ci := 7) (v := .int A.error) (C := R_Model) (T := F_Model) (N := 25) hx hb hts i_Model hown hK (hv_one hP h1) 0 rfl rfl 15 (by decide) (hts _ k_Model_69) (fun _ h9 => h9) rfl d_Model_fails_90 ?_
                  refine hv_put (D := D) (ci := 7) (v := .int A.error) (ty := .int) (C := R_Model) (T := F_Model) (N := 25) hx hb hts i_Model t_Model t_Model_ok n_Model hown hK hP hS h1 rfl 15 (by decide) (hts _ k_Model_69) (fun _ h9 => h9) rfl (by decide +kernel) rfl rfl (Nat.le_of_ble_eq_true rfl) d_Model_fails_93 (fun H locs hP hS => ?_)
                  obtain ⟨w6, ew6⟩ : ∃ z9 : hv_W, z9 = va_up w (K 0) (some (.inr (7, [.int A.thrown, .ref (K 1), .ref (K 2), .ref (K 3), .ref (K 4), .ref (K 5), .ref (K 6), .ref (K 7), .ref (K 8), .ref (K 9), .ref (K 10), .ref (K 11), .ref (K 12), .int (nI A.tapeSize), .ref (K 13), .int A.error, .int A.off, .int A.inside, .int (nI A.changes), .int (nI A.earlier), .int (nI A.logged), .int A.over, .int (nI A.loose), .int A.written, .int (nI A.due)]))) := ⟨_, rfl⟩
                  have hP : hv_P D classes s0.heap.size w6 H := by rw [ew6]; exact hP
                  have hM : mK ca K w0 A B w6 := by rw [ew6]; exact hM.put 0 (by decide) rfl
                  have h7 : w6 (K 0) = some (.inr (7, [.int A.thrown, .ref (K 1), .ref (K 2), .ref (K 3), .ref (K 4), .ref (K 5), .ref (K 6), .ref (K 7), .ref (K 8), .ref (K 9), .ref (K 10), .ref (K 11), .ref (K 12), .int (nI A.tapeSize), .ref (K 13), .int A.error, .int A.off, .int A.inside, .int (nI A.changes), .int (nI A.earlier), .int (nI A.logged), .int A.over, .int (nI A.loose), .int A.written, .int (nI A.due)])) := by rw [ew6]; exact hv_up_s
                  refine lv_aload_n hx hb d_Model_fails_96 rfl (lv_at hl 1 rfl) ?_
                  refine lv_iload hx hb d_Model_fails_97 (lv_at hl 0 rfl) ?_
                  refine lv_if_le (tgt := 106) hx hb d_Model_fails_99 (by decide) (fun c99 => ?_) (fun c99 => ?_)
                  · refine lv_iconst (v := 0) hx hb d_Model_fails_106 (by decide) ?_
                    refine hv_put (D := D) (ci := 7) (v := .int 0) (ty := .int) (C := R_Model) (T := F_Model) (N := 25) hx hb hts i_Model t_Model t_Model_ok n_Model hown hK hP hS h7 rfl 0 (by decide) (hts _ k_Model_51) (fun _ h9 => h9) rfl (by decide +kernel) rfl rfl (Nat.le_of_ble_eq_true rfl) d_Model_fails_107 (fun H locs hP hS => ?_)
                    obtain ⟨w8, ew8⟩ : ∃ z9 : hv_W, z9 = va_up w6 (K 0) (some (.inr (7, [.int 0, .ref (K 1), .ref (K 2), .ref (K 3), .ref (K 4), .ref (K 5), .ref (K 6), .ref (K 7), .ref (K 8), .ref (K 9), .ref (K 10), .ref (K 11), .ref (K 12), .int (nI A.tapeSize), .ref (K 13), .int A.error, .int A.off, .int A.inside, .int (nI A.changes), .int (nI A.earlier), .int (nI A.logged), .int A.over, .int (nI A.loose), .int A.written, .int (nI A.due)]))) := ⟨_, rfl⟩
                    have hP : hv_P D classes s0.heap.size w8 H := by rw [ew8]; exact hP
                    have hM : mK ca K w0 (A.sThrown 0) B w8 := by rw [ew8]; exact hM.put 0 (by decide) rfl
                    have h9 : w8 (K 0) = some (.inr (7, [.int 0, .ref (K 1), .ref (K 2), .ref (K 3), .ref (K 4), .ref (K 5), .ref (K 6), .ref (K 7), .ref (K 8), .ref (K 9), .ref (K 10), .ref (K 11), .ref (K 12), .int (nI A.tapeSize), .ref (K 13), .int A.error, .int A.off, .int A.inside, .int (nI A.changes), .int (nI A.earlier), .int (nI A.logged), .int A.over, .int (nI A.loose), .int A.written, .int (nI A.due)])) := by rw [ew8]; exact hv_up_s
                    refine lv_iload hx hb d_Model_fails_110 (lv_at hl 0 rfl) ?_
                    refine lv_if_le (tgt := 119) hx hb d_Model_fails_112 (by decide) (fun c112 => ?_) (fun c112 => ?_)
                    · refine lv_iconst (v := 0) hx hb d_Model_fails_119 (by decide) ?_
                      exact hv_zret (v := 0) hQ hx hb hr (by decide) hZ hS hP hlocks d_Model_fails_120 (Or.inr (Or.inl ⟨c4, by rw [m_fe, if_neg (fun z => z c15), if_neg (fun z => z c24), if_neg (fun z => z c32), if_neg (fun z => z c42), if_neg (fun z => c67 z.2)], rfl, hM⟩))
                    · exact absurd c112 (by decide)
                  · exact absurd c99 (by decide)
                · exact absurd c81 (by decide)
              · refine lv_bipush (v := 9) hx hb d_Model_fails_70 (by decide) ?_
                refine lv_goto (tgt := 76) hx hb d_Model_fails_72 (by decide) ?_
                refine lv_istore (lv' := [(6, .int 9), (0, .ref (K 0)), (1, .int a1), (2, .int a2), (3, .int a3), (4, .int a4), (5, .int a5)]) hx hb d_Model_fails_76 hl (by decide) rfl (fun ls hl => ?_)
                refine lv_aload_n hx hb d_Model_fails_78 rfl (lv_at hl 1 rfl) ?_
                refine lv_iload hx hb d_Model_fails_79 (lv_at hl 0 rfl) ?_
                refine lv_if_le (tgt := 89) hx hb d_Model_fails_81 (by decide) (fun c81 => ?_) (fun c81 => ?_)
                · exact absurd c81 (by decide)
                · refine lv_iload hx hb d_Model_fails_84 (lv_at hl 0 rfl) ?_
                  refine lv_goto (tgt := 93) hx hb d_Model_fails_86 (by decide) ?_
                  refine hv_put (D := D) (ci := 7) (v := .int 9) (ty := .int) (C := R_Model) (T := F_Model) (N := 25) hx hb hts i_Model t_Model t_Model_ok n_Model hown hK hP hS h1 rfl 15 (by decide) (hts _ k_Model_69) (fun _ h9 => h9) rfl (by decide +kernel) rfl rfl (Nat.le_of_ble_eq_true rfl) d_Model_fails_93 (fun H locs hP hS => ?_)
                  obtain ⟨w10, ew10⟩ : ∃ z9 : hv_W, z9 = va_up w (K 0) (some (.inr (7, [.int A.thrown, .ref (K 1), .ref (K 2), .ref (K 3), .ref (K 4), .ref (K 5), .ref (K 6), .ref (K 7), .ref (K 8), .ref (K 9), .ref (K 10), .ref (K 11), .ref (K 12), .int (nI A.tapeSize), .ref (K 13), .int 9, .int A.off, .int A.inside, .int (nI A.changes), .int (nI A.earlier), .int (nI A.logged), .int A.over, .int (nI A.loose), .int A.written, .int (nI A.due)]))) := ⟨_, rfl⟩
                  have hP : hv_P D classes s0.heap.size w10 H := by rw [ew10]; exact hP
                  have hM : mK ca K w0 (A.sError 9) B w10 := by rw [ew10]; exact hM.put 0 (by decide) rfl
                  have h11 : w10 (K 0) = some (.inr (7, [.int A.thrown, .ref (K 1), .ref (K 2), .ref (K 3), .ref (K 4), .ref (K 5), .ref (K 6), .ref (K 7), .ref (K 8), .ref (K 9), .ref (K 10), .ref (K 11), .ref (K 12), .int (nI A.tapeSize), .ref (K 13), .int 9, .int A.off, .int A.inside, .int (nI A.changes), .int (nI A.earlier), .int (nI A.logged), .int A.over, .int (nI A.loose), .int A.written, .int (nI A.due)])) := by rw [ew10]; exact hv_up_s
                  refine lv_aload_n hx hb d_Model_fails_96 rfl (lv_at hl 1 rfl) ?_
                  refine lv_iload hx hb d_Model_fails_97 (lv_at hl 0 rfl) ?_
                  refine lv_if_le (tgt := 106) hx hb d_Model_fails_99 (by decide) (fun c99 => ?_) (fun c99 => ?_)
                  · exact absurd c99 (by decide)
                  · refine lv_iconst (v := 1) hx hb d_Model_fails_102 (by decide) ?_
                    refine lv_goto (tgt := 107) hx hb d_Model_fails_103 (by decide) ?_
                    refine hv_put (D := D) (ci := 7) (v := .int 1) (ty := .int) (C := R_Model) (T := F_Model) (N := 25) hx hb hts i_Model t_Model t_Model_ok n_Model hown hK hP hS h11 rfl 0 (by decide) (hts _ k_Model_51) (fun _ h9 => h9) rfl (by decide +kernel) rfl rfl (Nat.le_of_ble_eq_true rfl) d_Model_fails_107 (fun H locs hP hS => ?_)
                    obtain ⟨w12, ew12⟩ : ∃ z9 : hv_W, z9 = va_up w10 (K 0) (some (.inr (7, [.int 1, .ref (K 1), .ref (K 2), .ref (K 3), .ref (K 4), .ref (K 5), .ref (K 6), .ref (K 7), .ref (K 8), .ref (K 9), .ref (K 10), .ref (K 11), .ref (K 12), .int (nI A.tapeSize), .ref (K 13), .int 9, .int A.off, .int A.inside, .int (nI A.changes), .int (nI A.earlier), .int (nI A.logged), .int A.over, .int (nI A.loose), .int A.written, .int (nI A.due)]))) := ⟨_, rfl⟩
                    have hP : hv_P D classes s0.heap.size w12 H := by rw [ew12]; exact hP
                    have hM : mK ca K w0 ((A.sThrown 1).sError 9) B w12 := by rw [ew12]; exact hM.put 0 (by decide) rfl
                    have h13 : w12 (K 0) = some (.inr (7, [.int 1, .ref (K 1), .ref (K 2), .ref (K 3), .ref (K 4), .ref (K 5), .ref (K 6), .ref (K 7), .ref (K 8), .ref (K 9), .ref (K 10), .ref (K 11), .ref (K 12), .int (nI A.tapeSize), .ref (K 13), .int 9, .int A.off, .int A.inside, .int (nI A.changes), .int (nI A.earlier), .int (nI A.logged), .int A.over, .int (nI A.loose), .int A.written, .int (nI A.due)])) := by rw [ew12]; exact hv_up_s
                    refine lv_iload hx hb d_Model_fails_110 (lv_at hl 0 rfl) ?_
                    refine lv_if_le (tgt := 119) hx hb d_Model_fails_112 (by decide) (fun c112 => ?_) (fun c112 => ?_)
                    · exact absurd c112 (by decide)
                    · refine lv_iconst (v := 1) hx hb d_Model_fails_115 (by decide) ?_
                      refine lv_goto (tgt := 120) hx hb d_Model_fails_116 (by decide) ?_
                      exact hv_zret (v := 1) hQ hx hb hr (by decide) hZ hS hP hlocks d_Model_fails_120 (Or.inr (Or.inr (by rw [m_fe, if_neg (fun z => z c15), if_neg (fun z => z c24), if_neg (fun z => z c32), if_neg (fun z => z c42), if_pos ⟨c52, c67⟩]; exact ⟨c4, by decide, rfl, hM⟩)))
          · refine lv_bipush (v := 6) hx hb d_Model_fails_45 (by decide) ?_
            refine lv_goto (tgt := 76) hx hb d_Model_fails_47 (by decide) ?_
            refine lv_istore (lv' := [(6, .int 6), (0, .ref (K 0)), (1, .int a1), (2, .int a2), (3, .int a3), (4, .int a4), (5, .int a5)]) hx hb d_Model_fails_76 hl (by decide) rfl (fun ls hl => ?_)
            refine lv_aload_n hx hb d_Model_fails_78 rfl (lv_at hl 1 rfl) ?_
            refine lv_iload hx hb d_Model_fails_79 (lv_at hl 0 rfl) ?_
            refine lv_if_le (tgt := 89) hx hb d_Model_fails_81 (by decide) (fun c81 => ?_) (fun c81 => ?_)
            · exact absurd c81 (by decide)
            · refine lv_iload hx hb d_Model_fails_84 (lv_at hl 0 rfl) ?_
              refine lv_goto (tgt := 93) hx hb d_Model_fails_86 (by decide) ?_
              refine hv_put (D := D) (ci := 7) (v := .int 6) (ty := .int) (C := R_Model) (T := F_Model) (N := 25) hx hb hts i_Model t_Model t_Model_ok n_Model hown hK hP hS h1 rfl 15 (by decide) (hts _ k_Model_69) (fun _ h9 => h9) rfl (by decide +kernel) rfl rfl (Nat.le_of_ble_eq_true rfl) d_Model_fails_93 (fun H locs hP hS => ?_)
              obtain ⟨w14, ew14⟩ : ∃ z9 : hv_W, z9 = va_up w (K 0) (some (.inr (7, [.int A.thrown, .ref (K 1), .ref (K 2), .ref (K 3), .ref (K 4), .ref (K 5), .ref (K 6), .ref (K 7), .ref (K 8), .ref (K 9), .ref (K 10), .ref (K 11), .ref (K 12), .int (nI A.tapeSize), .ref (K 13), .int 6, .int A.off, .int A.inside, .int (nI A.changes), .int (nI A.earlier), .int (nI A.logged), .int A.over, .int (nI A.loose), .int A.written, .int (nI A.due)]))) := ⟨_, rfl⟩
              have hP : hv_P D classes s0.heap.size w14 H := by rw [ew14]; exact hP
              have hM : mK ca K w0 (A.sError 6) B w14 := by rw [ew14]; exact hM.put 0 (by decide) rfl
              have h15 : w14 (K 0) = some (.inr (7, [.int A.thrown, .ref (K 1), .ref (K 2), .ref (K 3), .ref (K 4), .ref (K 5), .ref (K 6), .ref (K 7), .ref (K 8), .ref (K 9), .ref (K 10), .ref (K 11), .ref (K 12), .int (nI A.tapeSize), .ref (K 13), .int 6, .int A.off, .int A.inside, .int (nI A.changes), .int (nI A.earlier), .int (nI A.logged), .int A.over, .int (nI A.loose), .int A.written, .int (nI A.due)])) := by rw [ew14]; exact hv_up_s
              refine lv_aload_n hx hb d_Model_fails_96 rfl (lv_at hl 1 rfl) ?_
              refine lv_iload hx hb d_Model_fails_97 (lv_at hl 0 rfl) ?_
              refine lv_if_le (tgt := 106) hx hb d_Model_fails_99 (by decide) (fun c99 => ?_) (fun c99 => ?_)
              · exact absurd c99 (by decide)
              · refine lv_iconst (v := 1) hx hb d_Model_fails_102 (by decide) ?_
                refine lv_goto (tgt := 107) hx hb d_Model_fails_103 (by decide) ?_
                refine hv_put (D := D) (ci := 7) (v := .int 1) (ty := .int) (C := R_Model) (T := F_Model) (N := 25) hx hb hts i_Model t_Model t_Model_ok n_Model hown hK hP hS h15 rfl 0 (by decide) (hts _ k_Model_51) (fun _ h9 => h9) rfl (by decide +kernel) rfl rfl (Nat.le_of_ble_eq_true rfl) d_Model_fails_107 (fun H locs hP hS => ?_)
                obtain ⟨w16, ew16⟩ : ∃ z9 : hv_W, z9 = va_up w14 (K 0) (some (.inr (7, [.int 1, .ref (K 1), .ref (K 2), .ref (K 3), .ref (K 4), .ref (K 5), .ref (K 6), .ref (K 7), .ref (K 8), .ref (K 9), .ref (K 10), .ref (K 11), .ref (K 12), .int (nI A.tapeSize), .ref (K 13), .int 6, .int A.off, .int A.inside, .int (nI A.changes), .int (nI A.earlier), .int (nI A.logged), .int A.over, .int (nI A.loose), .int A.written, .int (nI A.due)]))) := ⟨_, rfl⟩
                have hP : hv_P D classes s0.heap.size w16 H := by rw [ew16]; exact hP
                have hM : mK ca K w0 ((A.sThrown 1).sError 6) B w16 := by rw [ew16]; exact hM.put 0 (by decide) rfl
                have h17 : w16 (K 0) = some (.inr (7, [.int 1, .ref (K 1), .ref (K 2), .ref (K 3), .ref (K 4), .ref (K 5), .ref (K 6), .ref (K 7), .ref (K 8), .ref (K 9), .ref (K 10), .ref (K 11), .ref (K 12), .int (nI A.tapeSize), .ref (K 13), .int 6, .int A.off, .int A.inside, .int (nI A.changes), .int (nI A.earlier), .int (nI A.logged), .int A.over, .int (nI A.loose), .int A.written, .int (nI A.due)])) := by rw [ew16]; exact hv_up_s
                refine lv_iload hx hb d_Model_fails_110 (lv_at hl 0 rfl) ?_
                refine lv_if_le (tgt := 119) hx hb d_Model_fails_112 (by decide) (fun c112 => ?_) (fun c112 => ?_)
                · exact absurd c112 (by decide)
                · refine lv_iconst (v := 1) hx hb d_Model_fails_115 (by decide) ?_
                  refine lv_goto (tgt := 120) hx hb d_Model_fails_116 (by decide) ?_
                  exact hv_zret (v := 1) hQ hx hb hr (by decide) hZ hS hP hlocks d_Model_fails_120 (Or.inr (Or.inr (by rw [m_fe, if_neg (fun z => z c15), if_neg (fun z => z c24), if_neg (fun z => z c32), if_pos c42]; exact ⟨c4, by decide, rfl, hM⟩)))
        · refine lv_bipush (v := 7) hx hb d_Model_fails_35 (by decide) ?_
          refine lv_goto (tgt := 76) hx hb d_Model_fails_37 (by decide) ?_
          refine lv_istore (lv' := [(6, .int 7), (0, .ref (K 0)), (1, .int a1), (2, .int a2), (3, .int a3), (4, .int a4), (5, .int a5)]) hx hb d_Model_fails_76 hl (by decide) rfl (fun ls hl => ?_)
          refine lv_aload_n hx hb d_Model_fails_78 rfl (lv_at hl 1 rfl) ?_
          refine lv_iload hx hb d_Model_fails_79 (lv_at hl 0 rfl) ?_
          refine lv_if_le (tgt := 89) hx hb d_Model_fails_81 (by decide) (fun c81 => ?_) (fun c81 => ?_)
          · exact absurd c81 (by decide)
          · refine lv_iload hx hb d_Model_fails_84 (lv_at hl 0 rfl) ?_
            refine lv_goto (tgt := 93) hx hb d_Model_fails_86 (by decide) ?_
            refine hv_put (D := D) (ci := 7) (v := .int 7) (ty := .int) (C := R_Model) (T := F_Model) (N := 25) hx hb hts i_Model t_Model t_Model_ok n_Model hown hK hP hS h1 rfl 15 (by decide) (hts _ k_Model_69) (fun _ h9 => h9) rfl (by decide +kernel) rfl rfl (Nat.le_of_ble_eq_true rfl) d_Model_fails_93 (fun H locs hP hS => ?_)
            obtain ⟨w18, ew18⟩ : ∃ z9 : hv_W, z9 = va_up w (K 0) (some (.inr (7, [.int A.thrown, .ref (K 1), .ref (K 2), .ref (K 3), .ref (K 4), .ref (K 5), .ref (K 6), .ref (K 7), .ref (K 8), .ref (K 9), .ref (K 10), .ref (K 11), .ref (K 12), .int (nI A.tapeSize), .ref (K 13), .int 7, .int A.off, .int A.inside, .int (nI A.changes), .int (nI A.earlier), .int (nI A.logged), .int A.over, .int (nI A.loose), .int A.written, .int (nI A.due)]))) := ⟨_, rfl⟩
            have hP : hv_P D classes s0.heap.size w18 H := by rw [ew18]; exact hP
            have hM : mK ca K w0 (A.sError 7) B w18 := by rw [ew18]; exact hM.put 0 (by decide) rfl
            have h19 : w18 (K 0) = some (.inr (7, [.int A.thrown, .ref (K 1), .ref (K 2), .ref (K 3), .ref (K 4), .ref (K 5), .ref (K 6), .ref (K 7), .ref (K 8), .ref (K 9), .ref (K 10), .ref (K 11), .ref (K 12), .int (nI A.tapeSize), .ref (K 13), .int 7, .int A.off, .int A.inside, .int (nI A.changes), .int (nI A.earlier), .int (nI A.logged), .int A.over, .int (nI A.loose), .int A.written, .int (nI A.due)])) := by rw [ew18]; exact hv_up_s
            refine lv_aload_n hx hb d_Model_fails_96 rfl (lv_at hl 1 rfl) ?_
            refine lv_iload hx hb d_Model_fails_97 (lv_at hl 0 rfl) ?_
            refine lv_if_le (tgt := 106) hx hb d_Model_fails_99 (by decide) (fun c99 => ?_) (fun c99 => ?_)
            · exact absurd c99 (by decide)
            · refine lv_iconst (v := 1) hx hb d_Model_fails_102 (by decide) ?_
              refine lv_goto (tgt := 107) hx hb d_Model_fails_103 (by decide) ?_
              refine hv_put (D := D) (ci := 7) (v := .int 1) (ty := .int) (C := R_Model) (T := F_Model) (N := 25) hx hb hts i_Model t_Model t_Model_ok n_Model hown hK hP hS h19 rfl 0 (by decide) (hts _ k_Model_51) (fun _ h9 => h9) rfl (by decide +kernel) rfl rfl (Nat.le_of_ble_eq_true rfl) d_Model_fails_107 (fun H locs hP hS => ?_)
              obtain ⟨w20, ew20⟩ : ∃ z9 : hv_W, z9 = va_up w18 (K 0) (some (.inr (7, [.int 1, .ref (K 1), .ref (K 2), .ref (K 3), .ref (K 4), .ref (K 5), .ref (K 6), .ref (K 7), .ref (K 8), .ref (K 9), .ref (K 10), .ref (K 11), .ref (K 12), .int (nI A.tapeSize), .ref (K 13), .int 7, .int A.off, .int A.inside, .int (nI A.changes), .int (nI A.earlier), .int (nI A.logged), .int A.over, .int (nI A.loose), .int A.written, .int (nI A.due)]))) := ⟨_, rfl⟩
              have hP : hv_P D classes s0.heap.size w20 H := by rw [ew20]; exact hP
              have hM : mK ca K w0 ((A.sThrown 1).sError 7) B w20 := by rw [ew20]; exact hM.put 0 (by decide) rfl
              have h21 : w20 (K 0) = some (.inr (7, [.int 1, .ref (K 1), .ref (K 2), .ref (K 3), .ref (K 4), .ref (K 5), .ref (K 6), .ref (K 7), .ref (K 8), .ref (K 9), .ref (K 10), .ref (K 11), .ref (K 12), .int (nI A.tapeSize), .ref (K 13), .int 7, .int A.off, .int A.inside, .int (nI A.changes), .int (nI A.earlier), .int (nI A.logged), .int A.over, .int (nI A.loose), .int A.written, .int (nI A.due)])) := by rw [ew20]; exact hv_up_s
              refine lv_iload hx hb d_Model_fails_110 (lv_at hl 0 rfl) ?_
              refine lv_if_le (tgt := 119) hx hb d_Model_fails_112 (by decide) (fun c112 => ?_) (fun c112 => ?_)
              · exact absurd c112 (by decide)
              · refine lv_iconst (v := 1) hx hb d_Model_fails_115 (by decide) ?_
                refine lv_goto (tgt := 120) hx hb d_Model_fails_116 (by decide) ?_
                exact hv_zret (v := 1) hQ hx hb hr (by decide) hZ hS hP hlocks d_Model_fails_120 (Or.inr (Or.inr (by rw [m_fe, if_neg (fun z => z c15), if_neg (fun z => z c24), if_pos c32]; exact ⟨c4, by decide, rfl, hM⟩)))
      · refine lv_iconst (v := 2) hx hb d_Model_fails_27 (by decide) ?_
        refine lv_goto (tgt := 76) hx hb d_Model_fails_28 (by decide) ?_
        refine lv_istore (lv' := [(6, .int 2), (0, .ref (K 0)), (1, .int a1), (2, .int a2), (3, .int a3), (4, .int a4), (5, .int a5)]) hx hb d_Model_fails_76 hl (by decide) rfl (fun ls hl => ?_)
        refine lv_aload_n hx hb d_Model_fails_78 rfl (lv_at hl 1 rfl) ?_
        refine lv_iload hx hb d_Model_fails_79 (lv_at hl 0 rfl) ?_
        refine lv_if_le (tgt := 89) hx hb d_Model_fails_81 (by decide) (fun c81 => ?_) (fun c81 => ?_)
        · exact absurd c81 (by decide)
        · refine lv_iload hx hb d_Model_fails_84 (lv_at hl 0 rfl) ?_
          refine lv_goto (tgt := 93) hx hb d_Model_fails_86 (by decide) ?_
          refine hv_put (D := D) (ci := 7) (v := .int 2) (ty := .int) (C := R_Model) (T := F_Model) (N := 25) hx hb hts i_Model t_Model t_Model_ok n_Model hown hK hP hS h1 rfl 15 (by decide) (hts _ k_Model_69) (fun _ h9 => h9) rfl (by decide +kernel) rfl rfl (Nat.le_of_ble_eq_true rfl) d_Model_fails_93 (fun H locs hP hS => ?_)
          obtain ⟨w22, ew22⟩ : ∃ z9 : hv_W, z9 = va_up w (K 0) (some (.inr (7, [.int A.thrown, .ref (K 1), .ref (K 2), .ref (K 3), .ref (K 4), .ref (K 5), .ref (K 6), .ref (K 7), .ref (K 8), .ref (K 9), .ref (K 10), .ref (K 11), .ref (K 12), .int (nI A.tapeSize), .ref (K 13), .int 2, .int A.off, .int A.inside, .int (nI A.changes), .int (nI A.earlier), .int (nI A.logged), .int A.over, .int (nI A.loose), .int A.written, .int (nI A.due)]))) := ⟨_, rfl⟩
          have hP : hv_P D classes s0.heap.size w22 H := by rw [ew22]; exact hP
          have hM : mK ca K w0 (A.sError 2) B w22 := by rw [ew22]; exact hM.put 0 (by decide) rfl
          have h23 : w22 (K 0) = some (.inr (7, [.int A.thrown, .ref (K 1), .ref (K 2), .ref (K 3), .ref (K 4), .ref (K 5), .ref (K 6), .ref (K 7), .ref (K 8), .ref (K 9), .ref (K 10), .ref (K 11), .ref (K 12), .int (nI A.tapeSize), .ref (K 13), .int 2, .int A.off, .int A.inside, .int (nI A.changes), .int (nI A.earlier), .int (nI A.logged), .int A.over, .int (nI A.loose), .int A.written, .int (nI A.due)])) := by rw [ew22]; exact hv_up_s
          refine lv_aload_n hx hb d_Model_fails_96 rfl (lv_at hl 1 rfl) ?_
          refine lv_iload hx hb d_Model_fails_97 (lv_at hl 0 rfl) ?_
          refine lv_if_le (tgt := 106) hx hb d_Model_fails_99 (by decide) (fun c99 => ?_) (fun c99 => ?_)
          · exact absurd c99 (by decide)
          · refine lv_iconst (v := 1) hx hb d_Model_fails_102 (by decide) ?_
            refine lv_goto (tgt := 107) hx hb d_Model_fails_103 (by decide) ?_
            refine hv_put (D := D) (ci := 7) (v := .int 1) (ty := .int) (C := R_Model) (T := F_Model) (N := 25) hx hb hts i_Model t_Model t_Model_ok n_Model hown hK hP hS h23 rfl 0 (by decide) (hts _ k_Model_51) (fun _ h9 => h9) rfl (by decide +kernel) rfl rfl (Nat.le_of_ble_eq_true rfl) d_Model_fails_107 (fun H locs hP hS => ?_)
            obtain ⟨w24, ew24⟩ : ∃ z9 : hv_W, z9 = va_up w22 (K 0) (some (.inr (7, [.int 1, .ref (K 1), .ref (K 2), .ref (K 3), .ref (K 4), .ref (K 5), .ref (K 6), .ref (K 7), .ref (K 8), .ref (K 9), .ref (K 10), .ref (K 11), .ref (K 12), .int (nI A.tapeSize), .ref (K 13), .int 2, .int A.off, .int A.inside, .int (nI A.changes), .int (nI A.earlier), .int (nI A.logged), .int A.over, .int (nI A.loose), .int A.written, .int (nI A.due)]))) := ⟨_, rfl⟩
            have hP : hv_P D classes s0.heap.size w24 H := by rw [ew24]; exact hP
            have hM : mK ca K w0 ((A.sThrown 1).sError 2) B w24 := by rw [ew24]; exact hM.put 0 (by decide) rfl
            have h25 : w24 (K 0) = some (.inr (7, [.int 1, .ref (K 1), .ref (K 2), .ref (K 3), .ref (K 4), .ref (K 5), .ref (K 6), .ref (K 7), .ref (K 8), .ref (K 9), .ref (K 10), .ref (K 11), .ref (K 12), .int (nI A.tapeSize), .ref (K 13), .int 2, .int A.off, .int A.inside, .int (nI A.changes), .int (nI A.earlier), .int (nI A.logged), .int A.over, .int (nI A.loose), .int A.written, .int (nI A.due)])) := by rw [ew24]; exact hv_up_s
            refine lv_iload hx hb d_Model_fails_110 (lv_at hl 0 rfl) ?_
            refine lv_if_le (tgt := 119) hx hb d_Model_fails_112 (by decide) (fun c112 => ?_) (fun c112 => ?_)
            · exact absurd c112 (by decide)
            · refine lv_iconst (v := 1) hx hb d_Model_fails_115 (by decide) ?_
              refine lv_goto (tgt := 120) hx hb d_Model_fails_116 (by decide) ?_
              exact hv_zret (v := 1) hQ hx hb hr (by decide) hZ hS hP hlocks d_Model_fails_120 (Or.inr (Or.inr (by rw [m_fe, if_neg (fun z => z c15), if_pos c24]; exact ⟨c4, by decide, rfl, hM⟩)))
    · refine lv_bipush (v := 8) hx hb d_Model_fails_18 (by decide) ?_
      refine lv_goto (tgt := 76) hx hb d_Model_fails_20 (by decide) ?_
      refine lv_istore (lv' := [(6, .int 8), (0, .ref (K 0)), (1, .int a1), (2, .int a2), (3, .int a3), (4, .int a4), (5, .int a5)]) hx hb d_Model_fails_76 hl (by decide) rfl (fun ls hl => ?_)
      refine lv_aload_n hx hb d_Model_fails_78 rfl (lv_at hl 1 rfl) ?_
      refine lv_iload hx hb d_Model_fails_79 (lv_at hl 0 rfl) ?_
      refine lv_if_le (tgt := 89) hx hb d_Model_fails_81 (by decide) (fun c81 => ?_) (fun c81 => ?_)
      · exact absurd c81 (by decide)
      · refine lv_iload hx hb d_Model_fails_84 (lv_at hl 0 rfl) ?_
        refine lv_goto (tgt := 93) hx hb d_Model_fails_86 (by decide) ?_
        refine hv_put (D := D) (ci := 7) (v := .int 8) (ty := .int) (C := R_Model) (T := F_Model) (N := 25) hx hb hts i_Model t_Model t_Model_ok n_Model hown hK hP hS h1 rfl 15 (by decide) (hts _ k_Model_69) (fun _ h9 => h9) rfl (by decide +kernel) rfl rfl (Nat.le_of_ble_eq_true rfl) d_Model_fails_93 (fun H locs hP hS => ?_)
        obtain ⟨w26, ew26⟩ : ∃ z9 : hv_W, z9 = va_up w (K 0) (some (.inr (7, [.int A.thrown, .ref (K 1), .ref (K 2), .ref (K 3), .ref (K 4), .ref (K 5), .ref (K 6), .ref (K 7), .ref (K 8), .ref (K 9), .ref (K 10), .ref (K 11), .ref (K 12), .int (nI A.tapeSize), .ref (K 13), .int 8, .int A.off, .int A.inside, .int (nI A.changes), .int (nI A.earlier), .int (nI A.logged), .int A.over, .int (nI A.loose), .int A.written, .int (nI A.due)]))) := ⟨_, rfl⟩
        have hP : hv_P D classes s0.heap.size w26 H := by rw [ew26]; exact hP
        have hM : mK ca K w0 (A.sError 8) B w26 := by rw [ew26]; exact hM.put 0 (by decide) rfl
        have h27 : w26 (K 0) = some (.inr (7, [.int A.thrown, .ref (K 1), .ref (K 2), .ref (K 3), .ref (K 4), .ref (K 5), .ref (K 6), .ref (K 7), .ref (K 8), .ref (K 9), .ref (K 10), .ref (K 11), .ref (K 12), .int (nI A.tapeSize), .ref (K 13), .int 8, .int A.off, .int A.inside, .int (nI A.changes), .int (nI A.earlier), .int (nI A.logged), .int A.over, .int (nI A.loose), .int A.written, .int (nI A.due)])) := by rw [ew26]; exact hv_up_s
        refine lv_aload_n hx hb d_Model_fails_96 rfl (lv_at hl 1 rfl) ?_
        refine lv_iload hx hb d_Model_fails_97 (lv_at hl 0 rfl) ?_
        refine lv_if_le (tgt := 106) hx hb d_Model_fails_99 (by decide) (fun c99 => ?_) (fun c99 => ?_)
        · exact absurd c99 (by decide)
        · refine lv_iconst (v := 1) hx hb d_Model_fails_102 (by decide) ?_
          refine lv_goto (tgt := 107) hx hb d_Model_fails_103 (by decide) ?_
          refine hv_put (D := D) (ci := 7) (v := .int 1) (ty := .int) (C := R_Model) (T := F_Model) (N := 25) hx hb hts i_Model t_Model t_Model_ok n_Model hown hK hP hS h27 rfl 0 (by decide) (hts _ k_Model_51) (fun _ h9 => h9) rfl (by decide +kernel) rfl rfl (Nat.le_of_ble_eq_true rfl) d_Model_fails_107 (fun H locs hP hS => ?_)
          obtain ⟨w28, ew28⟩ : ∃ z9 : hv_W, z9 = va_up w26 (K 0) (some (.inr (7, [.int 1, .ref (K 1), .ref (K 2), .ref (K 3), .ref (K 4), .ref (K 5), .ref (K 6), .ref (K 7), .ref (K 8), .ref (K 9), .ref (K 10), .ref (K 11), .ref (K 12), .int (nI A.tapeSize), .ref (K 13), .int 8, .int A.off, .int A.inside, .int (nI A.changes), .int (nI A.earlier), .int (nI A.logged), .int A.over, .int (nI A.loose), .int A.written, .int (nI A.due)]))) := ⟨_, rfl⟩
          have hP : hv_P D classes s0.heap.size w28 H := by rw [ew28]; exact hP
          have hM : mK ca K w0 ((A.sThrown 1).sError 8) B w28 := by rw [ew28]; exact hM.put 0 (by decide) rfl
          have h29 : w28 (K 0) = some (.inr (7, [.int 1, .ref (K 1), .ref (K 2), .ref (K 3), .ref (K 4), .ref (K 5), .ref (K 6), .ref (K 7), .ref (K 8), .ref (K 9), .ref (K 10), .ref (K 11), .ref (K 12), .int (nI A.tapeSize), .ref (K 13), .int 8, .int A.off, .int A.inside, .int (nI A.changes), .int (nI A.earlier), .int (nI A.logged), .int A.over, .int (nI A.loose), .int A.written, .int (nI A.due)])) := by rw [ew28]; exact hv_up_s
          refine lv_iload hx hb d_Model_fails_110 (lv_at hl 0 rfl) ?_
          refine lv_if_le (tgt := 119) hx hb d_Model_fails_112 (by decide) (fun c112 => ?_) (fun c112 => ?_)
          · exact absurd c112 (by decide)
          · refine lv_iconst (v := 1) hx hb d_Model_fails_115 (by decide) ?_
            refine lv_goto (tgt := 120) hx hb d_Model_fails_116 (by decide) ?_
            exact hv_zret (v := 1) hQ hx hb hr (by decide) hZ hS hP hlocks d_Model_fails_120 (Or.inr (Or.inr (by rw [m_fe, if_pos c15]; exact ⟨c4, by decide, rfl, hM⟩)))
  · refine lv_aload_n hx hb d_Model_fails_7 rfl (lv_at hl 0 rfl) ?_
    refine lv_iconst (v := 2) hx hb d_Model_fails_8 (by decide) ?_
    refine hv_put (D := D) (ci := 7) (v := .int 2) (ty := .int) (C := R_Model) (T := F_Model) (N := 25) hx hb hts i_Model t_Model t_Model_ok n_Model hown hK hP hS h1 rfl 0 (by decide) (hts _ k_Model_51) (fun _ h9 => h9) rfl (by decide +kernel) rfl rfl (Nat.le_of_ble_eq_true rfl) d_Model_fails_9 (fun H locs hP hS => ?_)
    obtain ⟨w30, ew30⟩ : ∃ z9 : hv_W, z9 = va_up w (K 0) (some (.inr (7, [.int 2, .ref (K 1), .ref (K 2), .ref (K 3), .ref (K 4), .ref (K 5), .ref (K 6), .ref (K 7), .ref (K 8), .ref (K 9), .ref (K 10), .ref (K 11), .ref (K 12), .int (nI A.tapeSize), .ref (K 13), .int A.error, .int A.off, .int A.inside, .int (nI A.changes), .int (nI A.earlier), .int (nI A.logged), .int A.over, .int (nI A.loose), .int A.written, .int (nI A.due)]))) := ⟨_, rfl⟩
    have hP : hv_P D classes s0.heap.size w30 H := by rw [ew30]; exact hP
    have hM : mK ca K w0 (A.sThrown 2) B w30 := by rw [ew30]; exact hM.put 0 (by decide) rfl
    have h31 : w30 (K 0) = some (.inr (7, [.int 2, .ref (K 1), .ref (K 2), .ref (K 3), .ref (K 4), .ref (K 5), .ref (K 6), .ref (K 7), .ref (K 8), .ref (K 9), .ref (K 10), .ref (K 11), .ref (K 12), .int (nI A.tapeSize), .ref (K 13), .int A.error, .int A.off, .int A.inside, .int (nI A.changes), .int (nI A.earlier), .int (nI A.logged), .int A.over, .int (nI A.loose), .int A.written, .int (nI A.due)])) := by rw [ew30]; exact hv_up_s
    refine lv_iconst (v := 1) hx hb d_Model_fails_12 (by decide) ?_
    exact hv_zret (v := 1) hQ hx hb hr (by decide) hZ hS hP hlocks d_Model_fails_13 (Or.inl ⟨c4, rfl, hM⟩)

abbrev rm_Model_count : Room := { frames := 0, cells := 0, slots := 0, locals := 0 }
set_option maxHeartbeats 4000000 in
set_option maxRecDepth 100000 in
theorem c_Model_count {l : Launch} {s0 : State} {D : va_G} {ca : Nat → ClassId} (C : hv_C l s0 D (hv_tys ca)) {w : hv_W} {K : Nat → Nat} {w0 : hv_W} {A : mA} {B : mB} {γ : Nat → Option gT} {lo n : Nat} (hM : mK ca K w0 A B w) (hln : lo + n ≤ 160) (hG : mG B 0 γ)  :
    hv_Met l y_Model_count [.code y_Model_count b_Model_count 5 (some .int)] rm_Model_count (hv_Pc s0 D w [.ref (K 0), .int (nI lo), .int (nI (lo + n))]) (hv_Q s0 D (fun v w' => v = some (.int (nI (x_cnt γ lo n))) ∧ w' = w) (fun _ _ => False)) 0 0 (hv_A s0.heap.size) := by
  refine hv_enter C _ (by decide) (Nat.le_of_ble_eq_true rfl) ?_
  intro p e s m below meth c ls Q hQ hx hb hr hml hown hts hK hZ hlocks hname hout htr hP hl
  have hown : s.vm.findClass R_Model = some m.cls := hown
  have hS : va_S (hv_A s0.heap.size) s.heap s.heap [] := va_S.rf
  have hl : lv_has ls 5 [(0, .ref (K 0)), (1, .int (nI lo)), (2, .int (nI (lo + n)))] := hl
  refine lv_iconst (v := 0) hx hb d_Model_count_0 (by decide) ?_
  refine lv_istore_n (lv' := [(3, .int 0), (0, .ref (K 0)), (1, .int (nI lo)), (2, .int (nI (lo + n)))]) hx hb d_Model_count_1 rfl hl (by decide) rfl (fun ls hl => ?_)
  refine lv_iload_n hx hb d_Model_count_2 rfl (lv_at hl 2 rfl) ?_
  refine lv_istore (lv' := [(4, .int (nI lo)), (3, .int 0), (0, .ref (K 0)), (1, .int (nI lo)), (2, .int (nI (lo + n)))]) hx hb d_Model_count_3 hl (by decide) rfl (fun ls hl => ?_)
  have h1 : w (K 0) = some (.inr (7, [.int A.thrown, .ref (K 1), .ref (K 2), .ref (K 3), .ref (K 4), .ref (K 5), .ref (K 6), .ref (K 7), .ref (K 8), .ref (K 9), .ref (K 10), .ref (K 11), .ref (K 12), .int (nI A.tapeSize), .ref (K 13), .int A.error, .int A.off, .int A.inside, .int (nI A.changes), .int (nI A.earlier), .int (nI A.logged), .int A.over, .int (nI A.loose), .int A.written, .int (nI A.due)])) := hM.1.2 0 (by decide)
  have h2 : w (K 1) = some (.inl (ca 2, 640, .inl B.there)) := hM.1.2 1 (by decide)
  have lp : ∀ (n9 : Nat) (k : Nat), n - k < n9 → (k ≤ n) → (x_cnt γ lo k ≤ k) → ∀ (H : Heap) (locs : List Loc) (ls : Array Slot), hv_P D classes s0.heap.size w H → va_S (hv_A s0.heap.size) s.heap H locs → lv_has ls 5 [(0, .ref (K 0)), (1, .int (nI lo)), (2, .int (nI (lo + n))), (3, .int (nI (x_cnt γ lo k))), (4, .int (nI (lo + k)))] → W p l e rm_Model_count s m ([.ref (K 0), .int (nI lo), .int (nI (lo + n))] : List Value).toArray below meth c H locs 0 0 Q (F0 m 5 ls []) := by
    intro n9
    induction n9 with
    | zero =>
      intro k hn9
      exact absurd hn9 (Nat.not_lt_zero _)
    | succ n9 ih =>
      intro k hn9 hk hle H locs ls hP hS hl
      refine lv_iload hx hb d_Model_count_5 (lv_at hl 4 rfl) ?_
      refine lv_iload_n hx hb d_Model_count_7 rfl (lv_at hl 2 rfl) ?_
      refine gk_icmp_ge (x := lo + k) (y := lo + n) (tgt := 35) hx hb d_Model_count_8 (by decide) (by omega) (by omega) (fun c8 => ?_) (fun c8 => ?_)
      · refine lv_iload_n hx hb d_Model_count_35 rfl (lv_at hl 3 rfl) ?_
        exact hv_iret (v := nI (x_cnt γ lo k)) hQ hx hb hr hZ hS hP hlocks d_Model_count_36 (⟨by rw [show k = n by omega], rfl⟩)
      · have hT := mG0 hG (e := lo + k) (by omega)
        refine lv_iload_n hx hb d_Model_count_11 rfl (lv_at hl 3 rfl) ?_
        refine lv_aload_n hx hb d_Model_count_12 rfl (lv_at hl 0 rfl) ?_
        refine va_get (D := D) (ci := 7) (v := .ref (K 1)) (C := R_Model) (T := F_Model) (N := 25) hx hb hts i_Model hown hK (hv_one hP h1) 0 rfl rfl 1 (by decide) (hts _ k_Model_7) (fun _ h9 => h9) rfl d_Model_count_13 ?_
        refine lv_iload hx hb d_Model_count_16 (lv_at hl 4 rfl) ?_
        refine va_zald hx hb hK (hv_one hP h2) 0 2 rfl rfl (vp_in_nI (n := lo + k) (by omega) (by omega)) d_Model_count_18 ?_
        rw [nI_clamp (n := lo + k) (by omega)]
        refine lv_if_eq (tgt := 26) hx hb d_Model_count_19 (by decide) (fun c19 => ?_) (fun c19 => ?_)
        · have hxi : (if γ (lo + k) = none then 0 else 1) = 0 := if_pos (mT_none hT c19)
          refine lv_iconst (v := 0) hx hb d_Model_count_26 (by decide) ?_
          refine gk_iadd (x := x_cnt γ lo k) (y := 0) hx hb d_Model_count_27 ?_
          refine lv_topi (fun v9 e9 => ?_)
          have e9 : v9 = nI (x_cnt γ lo (k + 1)) := e9.trans (by rw [x_cnt, hxi])
          subst e9
          show W _ _ _ _ _ _ _ _ _ _ _ _ _ _ _ (F0 m 28 ls [.int (nI (x_cnt γ lo (k + 1)))])
          refine lv_istore_n (lv' := [(3, .int (nI (x_cnt γ lo (k + 1)))), (0, .ref (K 0)), (1, .int (nI lo)), (2, .int (nI (lo + n))), (4, .int (nI (lo + k)))]) hx hb d_Model_count_28 rfl hl (by decide) rfl (fun ls hl => ?_)
          refine lv_iinc (v := (nI (lo + (k + 1)))) (lv' := [(4, .int ((nI (lo + (k + 1))))), (3, .int (nI (x_cnt γ lo (k + 1)))), (0, .ref (K 0)), (1, .int (nI lo)), (2, .int (nI (lo + n)))]) hx hb d_Model_count_29 hl (k := 4) rfl (nI_add (lo + k) 1) (by decide) rfl (fun ls hl => ?_)
          refine lv_goto (tgt := 5) hx hb d_Model_count_32 (by decide) ?_
          exact ih (k + 1) (by omega) (by omega) (x_cnt_le γ lo (k + 1)) _ _ _ hP hS (lv_sub hl [2, 3, 4, 1, 0] rfl)
        · have hxi : (if γ (lo + k) = none then 0 else 1) = 1 := if_neg (fun z => by obtain ⟨t, ht, -⟩ := mT_some hT c19; rw [ht] at z; cases z)
          refine lv_iconst (v := 1) hx hb d_Model_count_22 (by decide) ?_
          refine lv_goto (tgt := 27) hx hb d_Model_count_23 (by decide) ?_
          refine gk_iadd (x := x_cnt γ lo k) (y := 1) hx hb d_Model_count_27 ?_
          refine lv_topi (fun v9 e9 => ?_)
          have e9 : v9 = nI (x_cnt γ lo (k + 1)) := e9.trans (by rw [x_cnt, hxi])
          subst e9
          show W _ _ _ _ _ _ _ _ _ _ _ _ _ _ _ (F0 m 28 ls [.int (nI (x_cnt γ lo (k + 1)))])
          refine lv_istore_n (lv' := [(3, .int (nI (x_cnt γ lo (k + 1)))), (0, .ref (K 0)), (1, .int (nI lo)), (2, .int (nI (lo + n))), (4, .int (nI (lo + k)))]) hx hb d_Model_count_28 rfl hl (by decide) rfl (fun ls hl => ?_)
          refine lv_iinc (v := (nI (lo + (k + 1)))) (lv' := [(4, .int ((nI (lo + (k + 1))))), (3, .int (nI (x_cnt γ lo (k + 1)))), (0, .ref (K 0)), (1, .int (nI lo)), (2, .int (nI (lo + n)))]) hx hb d_Model_count_29 hl (k := 4) rfl (nI_add (lo + k) 1) (by decide) rfl (fun ls hl => ?_)
          refine lv_goto (tgt := 5) hx hb d_Model_count_32 (by decide) ?_
          exact ih (k + 1) (by omega) (by omega) (x_cnt_le γ lo (k + 1)) _ _ _ hP hS (lv_sub hl [2, 3, 4, 1, 0] rfl)
  exact lp _ 0 (Nat.lt_succ_self _) (Nat.zero_le _) (Nat.le_refl 0) _ _ _ hP hS (lv_sub hl [2, 3, 4, 1, 0] rfl)

