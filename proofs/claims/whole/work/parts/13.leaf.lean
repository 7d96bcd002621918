abbrev rm_Nd_withoutLabel : Room := { frames := 3, cells := 2, slots := 6, locals := 55 }
set_option maxHeartbeats 4000000 in
set_option maxRecDepth 100000 in
/-- withoutLabel(x): a new node without it -/
theorem c_Nd_withoutLabel {l : Launch} {s0 : State} {D : va_G} {ca : Nat → ClassId} (C : hv_C l s0 D (hv_tys ca)) {w : hv_W} {a pa lb : Nat} {Mu : Nat → Prop} {xs : List Int32} {ps : List gP} (x : Int32) (hMu : ∀ b, Mu b → w b ≠ none) (h0 : w a = some (.inr (5, [.ref pa, .ref lb]))) (hls : g_int ca Mu w lb xs) (hps : g_props ca Mu w pa ps) (hnl : xs.length ≤ 4) (hx0 : x ∈ xs)  :
    hv_Met l y_Nd_withoutLabel [.code y_Nd_withoutLabel b_Nd_withoutLabel 5 (some (.object "GraphKeep$Node"))] rm_Nd_withoutLabel (hv_Pc s0 D w [.ref a, .int x]) (hv_Q s0 D (fun v w' => ∃ q, v = some (va_rf (some q)) ∧ w q = none ∧ g_node ca Mu w' q (xs.erase x, ps) ∧ g_grow w w') (fun _ _ => False)) 2 6 (hv_A s0.heap.size) := by
  refine hv_enter C _ (by decide) (Nat.le_of_ble_eq_true rfl) ?_
  intro p e s m below meth c ls Q hQ hx hb hr hml hown hts hK hZ hlocks hname hout htr hP hl
  have hown : s.vm.findClass R_Nd = some m.cls := hown
  have hS : va_S (hv_A s0.heap.size) s.heap s.heap [] := va_S.rf
  have hl : lv_has ls 5 [(0, .ref a), (1, .int x)] := hl
  obtain ⟨hlm, lf, hl0, hle⟩ := id hls
  refine lv_aload_n hx hb d_Nd_withoutLabel_0 rfl (lv_at hl 0 rfl) ?_
  refine lv_iload_n hx hb d_Nd_withoutLabel_1 rfl (lv_at hl 1 rfl) ?_
  refine hv_call (hv_runV (As := [.int x]) (rest := []) (c_Nd_placeOfLabel C x h0 hls hnl) (hv_cw C hZ kc_Nd_placeOfLabel kn_Nd ⟨rfl, rfl, Nat.le_of_ble_eq_true rfl, Nat.le_of_ble_eq_true rfl⟩) hv_blind (hv_pre hZ hS hP) hx hml hb hown (hts _ k_Nd_13) (hts _ ki_Nd_placeOfLabel) (hts _ ksel_Nd_Nd_placeOfLabel) hy_Nd_placeOfLabel (hts _ kc_Nd_placeOfLabel) (va_recv hK (hv_one hP h0) (ci := 5) (q0 := 0) rfl rfl) rfl hl.1 rfl (lv_room (Nat.le_of_ble_eq_true rfl)) d_Nd_withoutLabel_2 ⟨Nat.le_of_ble_eq_true rfl, Nat.le_of_ble_eq_true rfl⟩) hZ hS (fun v9 w1 H locs q2 hP hS => ?_) (fun x9 w1 H locs q2 hP hS => q2.elim)
  obtain ⟨⟨i, hv9, hf⟩, hw9⟩ := q2
  subst hv9
  rw [hw9] at hP
  show W _ _ _ _ _ _ _ _ _ _ _ _ _ _ _ (F0 m 5 ls [.int (nI i)])
  have hi : i ≤ xs.length := hf.1
  have hil : i < xs.length := (g_fst_mem hf).mpr hx0
  refine lv_istore_n (lv' := [(2, .int (nI i)), (0, .ref a), (1, .int x)]) hx hb d_Nd_withoutLabel_5 rfl hl (by decide) rfl (fun ls hl => ?_)
  refine lv_iload_n hx hb d_Nd_withoutLabel_6 rfl (lv_at hl 0 rfl) ?_
  refine lv_aload_n hx hb d_Nd_withoutLabel_7 rfl (lv_at hl 1 rfl) ?_
  refine va_get (D := D) (ci := 5) (v := .ref lb) (C := R_Nd) (T := F_Nd) (N := 2) hx hb hts i_Nd hown hK (hv_one hP h0) 0 rfl rfl 1 (by decide) (hts _ k_Nd_7) (fun _ h9 => h9) rfl d_Nd_withoutLabel_8 ?_
  refine va_alen (v := nI xs.length) hx hb hK (hv_one hP hl0) 0 0 rfl rfl rfl d_Nd_withoutLabel_11 ?_
  refine gk_icmp_lt (x := i) (y := xs.length) (tgt := 17) hx hb d_Nd_withoutLabel_12 (by decide) (by omega) (by omega) (fun c12 => ?_) (fun c12 => ?_)
  · refine lv_aload_n hx hb d_Nd_withoutLabel_17 rfl (lv_at hl 1 rfl) ?_
    refine va_get (D := D) (ci := 5) (v := .ref lb) (C := R_Nd) (T := F_Nd) (N := 2) hx hb hts i_Nd hown hK (hv_one hP h0) 0 rfl rfl 1 (by decide) (hts _ k_Nd_7) (fun _ h9 => h9) rfl d_Nd_withoutLabel_18 ?_
    refine va_alen (v := nI xs.length) hx hb hK (hv_one hP hl0) 0 0 rfl rfl rfl d_Nd_withoutLabel_21 ?_
    refine lv_iconst (v := 1) hx hb d_Nd_withoutLabel_22 (by decide) ?_
    refine gk_isub (x := xs.length) (y := 1) hx hb d_Nd_withoutLabel_23 (by omega) ?_
    refine hv_newa (a0 := (xs.length - 1, .inl (fun _ => 0))) hx hb (show (Cond.arrayClass (newarray.typeOf .int)).before _ s = true from hts _ ka_int) rfl hK hP hS hZ.2.1 0 rfl (N' := xs.length - 1) (fun _ => rfl) (nI_pos (by omega)) (nI_clamp (by omega)) (gk_bytes (Nat.le_trans (Nat.mul_le_mul_left _ (by decide : _ ≤ 8)) (by omega))) (Nat.le_of_ble_eq_true rfl) (by show _ + _ ≤ 6; omega) d_Nd_withoutLabel_24 (fun q3 H hq4 hP hS => ?_)
    obtain ⟨w5, ew5⟩ : ∃ z9 : hv_W, z9 = va_up w q3 (some (.inl (ca 0, xs.length - 1, .inl (fun _ => 0)))) := ⟨_, rfl⟩
    have hP : hv_P D classes s0.heap.size w5 H := by rw [ew5]; exact hP
    have h6 : w5 a = some (.inr (5, [.ref pa, .ref lb])) := by rw [ew5]; exact hv_up_f hq4 h0
    have h7 : w5 lb = some (.inl (ca 0, xs.length, .inl lf)) := by rw [ew5]; exact hv_up_f hq4 hl0
    have h8 : w5 q3 = some (.inl (ca 0, xs.length - 1, .inl (fun _ => 0))) := by rw [ew5]; exact hv_up_s
    refine W.widen (k := 1) (n := 4) (by omega) (by omega) ?_
    show W _ _ _ _ _ _ _ _ _ _ _ _ _ _ _ (F0 m 26 ls [.ref q3])
    have hg0 : g_grow w w5 := by rw [ew5]; exact g_grow.new hq4
    refine lv_astore_n (lv' := [(3, .ref q3), (2, .int (nI i)), (0, .ref a), (1, .int x)]) hx hb d_Nd_withoutLabel_26 rfl hl (by decide) rfl (fun ls hl => ?_)
    refine lv_iconst (v := 0) hx hb d_Nd_withoutLabel_27 (by decide) ?_
    refine lv_istore (lv' := [(4, .int 0), (3, .ref q3), (2, .int (nI i)), (0, .ref a), (1, .int x)]) hx hb d_Nd_withoutLabel_28 hl (by decide) rfl (fun ls hl => ?_)
    have lp : ∀ (n9 : Nat) (k : Nat) (g : Nat → Int32) (z : hv_W), (xs.length - 1) - k < n9 → (k ≤ (xs.length - 1)) → (z q3 = some (.inl (ca 0, xs.length - 1, .inl g))) → (g_grow w z) → (∀ j, j < k → g j = (fun j => xs.getD (if j < i then j else j + 1) 0) j) → ∀ (H : Heap) (locs : List Loc) (ls : Array Slot), hv_P D classes s0.heap.size z H → va_S (hv_A s0.heap.size) s.heap H locs → lv_has ls 5 [(0, .ref a), (1, .int x), (2, .int (nI i)), (3, .ref q3), (4, .int (nI k))] → W p l e rm_Nd_withoutLabel s m ([.ref a, .int x] : List Value).toArray below meth c H locs 1 4 Q (F0 m 30 ls []) := by
      intro n9
      induction n9 with
      | zero =>
        intro k g z hn9
        exact absurd hn9 (Nat.not_lt_zero _)
      | succ n9 ih =>
        intro k g z hn9 hi9 hz hg hj H locs ls hP hS hl
        refine lv_iload hx hb d_Nd_withoutLabel_30 (lv_at hl 4 rfl) ?_
        refine lv_aload_n hx hb d_Nd_withoutLabel_32 rfl (lv_at hl 3 rfl) ?_
        refine va_alen (v := nI (xs.length - 1)) hx hb hK (hv_one hP hz) 0 0 rfl rfl rfl d_Nd_withoutLabel_33 ?_
        refine gk_icmp_ge (x := k) (y := xs.length - 1) (tgt := 67) hx hb d_Nd_withoutLabel_34 (by decide) (by omega) (by omega) (fun c34 => ?_) (fun c34 => ?_)
        · refine hv_new (ci := 5) (fs := [.null, .null]) (C := R_Nd) (T := F_Nd) (N := 2) hx hb hts i_Nd t_Nd t_Nd_ok hown (hts _ k_Nd_8) (hts _ kin_Nd) (hts _ kn_Nd) hK hP hS hZ.2.1 rfl z_Nd (Nat.le_of_ble_eq_true rfl) (Nat.le_of_ble_eq_true rfl) d_Nd_withoutLabel_67 (fun q9 H hq10 hP hS => ?_)
          obtain ⟨w11, ew11⟩ : ∃ z9 : hv_W, z9 = va_up z q9 (some (.inr (5, [.null, .null]))) := ⟨_, rfl⟩
          have hP : hv_P D classes s0.heap.size w11 H := by rw [ew11]; exact hP
          have h12 : w11 a = some (.inr (5, [.ref pa, .ref lb])) := by rw [ew11]; exact hv_up_f hq10 (hg _ _ h0)
          have h13 : w11 lb = some (.inl (ca 0, xs.length, .inl lf)) := by rw [ew11]; exact hv_up_f hq10 (hg _ _ hl0)
          have h14 : w11 q3 = some (.inl (ca 0, xs.length - 1, .inl g)) := by rw [ew11]; exact hv_up_f hq10 hz
          have h15 : w11 q9 = some (.inr (5, [.null, .null])) := by rw [ew11]; exact hv_up_s
          refine W.widen (k := 2) (n := 6) (by omega) (by omega) ?_
          show W _ _ _ _ _ _ _ _ _ _ _ _ _ _ _ (F0 m 70 ls [.ref q9])
          have hg2 : g_grow w w11 := hg.trans (by rw [ew11]; exact g_grow.new hq10)
          have hn2 : w q9 = none := hg.none hq10
          refine lv_dup hx hb d_Nd_withoutLabel_70 rfl ?_
          refine lv_aload_n hx hb d_Nd_withoutLabel_71 rfl (lv_at hl 3 rfl) ?_
          refine lv_aload_n hx hb d_Nd_withoutLabel_72 rfl (lv_at hl 0 rfl) ?_
          refine va_get (D := D) (ci := 5) (v := .ref pa) (C := R_Nd) (T := F_Nd) (N := 2) hx hb hts i_Nd hown hK (hv_one hP h12) 0 rfl rfl 0 (by decide) (hts _ k_Nd_17) (u_same (hts _ ks_Nd_properties)) rfl d_Nd_withoutLabel_73 ?_
          refine hv_call (hv_runI (As := [.ref q3, .ref pa]) (rest := [.ref q9]) (c_Nd_init C h15) (hv_cw C hZ kc_Nd_init kn_Nd ⟨rfl, rfl, Nat.le_of_ble_eq_true rfl, Nat.le_of_ble_eq_true rfl⟩) hv_blind (hv_pre hZ hS hP) hx hml hb hown (hts _ k_Nd_21) (hts _ ki_Nd_init) rfl hy_Nd_init (hts _ kc_Nd_init) rfl hl.1 rfl (lv_room (Nat.le_of_ble_eq_true rfl)) d_Nd_withoutLabel_76 ⟨Nat.le_of_ble_eq_true rfl, Nat.le_of_ble_eq_true rfl⟩) hZ hS (fun v9 w16 H locs q17 hP hS => ?_) (fun x9 w16 H locs q17 hP hS => q17.elim)
          obtain ⟨hv9, q17u⟩ := q17
          subst hv9
          show W _ _ _ _ _ _ _ _ _ _ _ _ _ _ _ (F0 m 79 ls [.ref q9])
          have hg3 : g_grow w w16 := g_grow.upd hn2 hg2 q17u
          exact hv_aret (v := some q9) hQ hx hb hr (Or.inl ⟨_, rfl⟩) hZ hS hP hlocks d_Nd_withoutLabel_79 (⟨q9, rfl, hn2, ⟨fun hm => hMu _ hm hn2, pa, q3, q17u.1, by rw [← g_erase hf hil]; exact ⟨fun hm => hMu _ hm hq4, _, by rw [List.length_eraseIdx_of_lt hil]; exact (q17u.k h14 (hv_ne h14 h15 (by simp [hv_tag]))), g_rem hil (fun j hj9 => hj j (by omega))⟩, hps.k hg3.keep⟩, hg3⟩)
        · refine lv_aload_n hx hb d_Nd_withoutLabel_37 rfl (lv_at hl 3 rfl) ?_
          refine lv_iload hx hb d_Nd_withoutLabel_38 (lv_at hl 4 rfl) ?_
          refine lv_aload_n hx hb d_Nd_withoutLabel_40 rfl (lv_at hl 0 rfl) ?_
          refine va_get (D := D) (ci := 5) (v := .ref lb) (C := R_Nd) (T := F_Nd) (N := 2) hx hb hts i_Nd hown hK (hv_one hP (hg _ _ h0)) 0 rfl rfl 1 (by decide) (hts _ k_Nd_7) (fun _ h9 => h9) rfl d_Nd_withoutLabel_41 ?_
          refine lv_iload hx hb d_Nd_withoutLabel_44 (lv_at hl 4 rfl) ?_
          refine lv_iload_n hx hb d_Nd_withoutLabel_46 rfl (lv_at hl 2 rfl) ?_
          refine gk_icmp_ge (x := k) (y := i) (tgt := 55) hx hb d_Nd_withoutLabel_47 (by decide) (by omega) (by omega) (fun c47 => ?_) (fun c47 => ?_)
          · refine lv_iload hx hb d_Nd_withoutLabel_55 (lv_at hl 4 rfl) ?_
            refine lv_iconst (v := 1) hx hb d_Nd_withoutLabel_57 (by decide) ?_
            refine gk_iadd (x := k) (y := 1) hx hb d_Nd_withoutLabel_58 ?_
            refine va_iald hx hb hK (hv_one hP (hg _ _ hl0)) 0 0 rfl rfl (vp_in_nI (n := k + 1) (by omega) (by omega)) d_Nd_withoutLabel_59 ?_
            rw [nI_clamp (n := k + 1) (by omega)]
            refine hv_iast hx hb hK hP hS 0 hz rfl (vp_in_nI (n := k) (by omega) (by omega)) d_Nd_withoutLabel_60 (fun H locs hP hS => ?_)
            rw [nI_clamp (n := k) (by omega)] at hP
            obtain ⟨w18, ew18⟩ : ∃ z9 : hv_W, z9 = va_up z q3 (some (.inl (ca 0, xs.length - 1, .inl (upd g k ((lf (k + 1))))))) := ⟨_, rfl⟩
            have hP : hv_P D classes s0.heap.size w18 H := by rw [ew18]; exact hP
            have h19 : w18 a = some (.inr (5, [.ref pa, .ref lb])) := by rw [ew18]; exact hv_up_k (hg _ _ h0) (hv_ne_f hq4 h0)
            have h20 : w18 lb = some (.inl (ca 0, xs.length, .inl lf)) := by rw [ew18]; exact hv_up_k (hg _ _ hl0) (hv_ne_f hq4 hl0)
            have h21 : w18 q3 = some (.inl (ca 0, xs.length - 1, .inl (upd g k ((lf (k + 1)))))) := by rw [ew18]; exact hv_up_s
            refine lv_iinc (v := (nI (k + 1))) (lv' := [(4, .int ((nI (k + 1)))), (0, .ref a), (1, .int x), (2, .int (nI i)), (3, .ref q3)]) hx hb d_Nd_withoutLabel_61 hl (k := 4) rfl (nI_add k 1) (by decide) rfl (fun ls hl => ?_)
            refine lv_goto (tgt := 30) hx hb d_Nd_withoutLabel_64 (by decide) ?_
            exact ih (k + 1) (upd g k ((lf (k + 1)))) w18 (by omega) (by omega) h21 (g_grow.upd hq4 hg ⟨h21, fun b hb => by rw [ew18, hv_up_n hb]⟩) (gk_fillI (f := fun j => xs.getD (if j < i then j else j + 1) 0) hj (by show lf (k + 1) = xs.getD (if k < i then k else k + 1) 0; rw [hle (k + 1) (by omega), if_neg (by omega)])) _ _ _ hP hS (lv_sub hl [1, 2, 3, 4, 0] rfl)
          · refine lv_iload hx hb d_Nd_withoutLabel_50 (lv_at hl 4 rfl) ?_
            refine lv_goto (tgt := 59) hx hb d_Nd_withoutLabel_52 (by decide) ?_
            refine va_iald hx hb hK (hv_one hP (hg _ _ hl0)) 0 0 rfl rfl (vp_in_nI (n := k) (by omega) (by omega)) d_Nd_withoutLabel_59 ?_
            rw [nI_clamp (n := k) (by omega)]
            refine hv_iast hx hb hK hP hS 0 hz rfl (vp_in_nI (n := k) (by omega) (by omega)) d_Nd_withoutLabel_60 (fun H locs hP hS => ?_)
            rw [nI_clamp (n := k) (by omega)] at hP
            obtain ⟨w22, ew22⟩ : ∃ z9 : hv_W, z9 = va_up z q3 (some (.inl (ca 0, xs.length - 1, .inl (upd g k ((lf k)))))) := ⟨_, rfl⟩
            have hP : hv_P D classes s0.heap.size w22 H := by rw [ew22]; exact hP
            have h23 : w22 a = some (.inr (5, [.ref pa, .ref lb])) := by rw [ew22]; exact hv_up_k (hg _ _ h0) (hv_ne_f hq4 h0)
            have h24 : w22 lb = some (.inl (ca 0, xs.length, .inl lf)) := by rw [ew22]; exact hv_up_k (hg _ _ hl0) (hv_ne_f hq4 hl0)
            have h25 : w22 q3 = some (.inl (ca 0, xs.length - 1, .inl (upd g k ((lf k))))) := by rw [ew22]; exact hv_up_s
            refine lv_iinc (v := (nI (k + 1))) (lv' := [(4, .int ((nI (k + 1)))), (0, .ref a), (1, .int x), (2, .int (nI i)), (3, .ref q3)]) hx hb d_Nd_withoutLabel_61 hl (k := 4) rfl (nI_add k 1) (by decide) rfl (fun ls hl => ?_)
            refine lv_goto (tgt := 30) hx hb d_Nd_withoutLabel_64 (by decide) ?_
            exact ih (k + 1) (upd g k ((lf k))) w22 (by omega) (by omega) h25 (g_grow.upd hq4 hg ⟨h25, fun b hb => by rw [ew22, hv_up_n hb]⟩) (gk_fillI (f := fun j => xs.getD (if j < i then j else j + 1) 0) hj (by show lf k = xs.getD (if k < i then k else k + 1) 0; rw [hle k (by omega), if_pos c47])) _ _ _ hP hS (lv_sub hl [1, 2, 3, 4, 0] rfl)
    exact lp _ 0 (fun _ => 0) w5 (Nat.lt_succ_self _) (Nat.zero_le _) h8 hg0 (fun j q => absurd q (Nat.not_lt_zero _)) _ _ _ hP hS (lv_sub hl [3, 4, 2, 1, 0] rfl)
  · exact absurd hil (Nat.not_lt.mpr c12)

abbrev rm_Th_propertiesWithN : Room := { frames := 1, cells := 1, slots := 7, locals := 22 }
set_option maxHeartbeats 4000000 in
set_option maxRecDepth 100000 in
/-- propertiesWith(q) -/
theorem c_Th_propertiesWithN {l : Launch} {s0 : State} {D : va_G} {ca : Nat → ClassId} (C : hv_C l s0 D (hv_tys ca)) {w : hv_W} {a pa : Nat} {Mu : Nat → Prop} {ps : List gP} {q : Nat} {pp : gP} {lb : Nat} (hMu : ∀ b, Mu b → w b ≠ none) (h0 : w a = some (.inr (5, [.ref pa, .ref lb]))) (hps : g_props ca Mu w pa ps) (hnp : ps.length ≤ 6) (hq : g_prop ca Mu w q pp)  :
    hv_Met l y_Th_propertiesWith [.code y_Th_propertiesWith b_Th_propertiesWith 6 (some (.array (.object "GraphKeep$Property")))] rm_Th_propertiesWithN (hv_Pc s0 D w [.ref a, .ref q]) (hv_Q s0 D (fun v w' => ∃ r, v = some (va_rf (some r)) ∧ w r = none ∧ g_props ca Mu w' r (g_put ps pp) ∧ g_grow w w') (fun _ _ => False)) 1 7 (hv_A s0.heap.size) := by
  refine hv_enter C _ (by decide) (Nat.le_of_ble_eq_true rfl) ?_
  intro p e s m below meth c ls Q hQ hx hb hr hml hown hts hK hZ hlocks hname hout htr hP hl
  have hown : s.vm.findClass R_Th = some m.cls := hown
  have hS : va_S (hv_A s0.heap.size) s.heap s.heap [] := va_S.rf
  have hl : lv_has ls 6 [(0, .ref a), (1, .ref q)] := hl
  obtain ⟨hpm, pf, hp, hpe⟩ := id hps
  obtain ⟨hqm, t, hq2, htx⟩ := id hq
  refine lv_aload_n hx hb d_Th_propertiesWith_0 rfl (lv_at hl 0 rfl) ?_
  refine lv_aload_n hx hb d_Th_propertiesWith_1 rfl (lv_at hl 1 rfl) ?_
  refine va_get (D := D) (ci := 4) (v := .int pp.1) (C := R_Pr) (T := F_Pr) (N := 4) hx hb hts i_Pr hown hK (hv_one hP hq2) 0 rfl rfl 0 (by decide) (hts _ k_Th_17) (fun _ h9 => h9) rfl d_Th_propertiesWith_2 ?_
  refine hv_call (hv_runV (As := [.int pp.1]) (rest := []) (c_Th_placeOfN C pp.1 h0 hps hnp) (hv_cw C hZ kc_Th_placeOf kn_Th ⟨rfl, rfl, Nat.le_of_ble_eq_true rfl, Nat.le_of_ble_eq_true rfl⟩) hv_blind (hv_pre hZ hS hP) hx hml hb hown (hts _ k_Th_13) (hts _ ki_Th_placeOf) (hv_selP C hZ (x := y_Th_propertyOf) rfl (by decide) ksel_Nd_Th_propertyOf kpr_Th_placeOf ki_Th_placeOf) hy_Th_placeOf (hts _ kc_Th_placeOf) (va_recv hK (hv_one hP h0) (ci := 5) (q0 := 0) rfl rfl) rfl hl.1 rfl (lv_room (Nat.le_of_ble_eq_true rfl)) d_Th_propertiesWith_5 ⟨Nat.le_of_ble_eq_true rfl, Nat.le_of_ble_eq_true rfl⟩) hZ hS (fun v9 w1 H locs q2 hP hS => ?_) (fun x9 w1 H locs q2 hP hS => q2.elim)
  obtain ⟨⟨i, hv9, hf⟩, hw9⟩ := q2
  subst hv9
  rw [hw9] at hP
  show W _ _ _ _ _ _ _ _ _ _ _ _ _ _ _ (F0 m 8 ls [.int (nI i)])
  have hi : i ≤ ps.length := hf.1
  have hip : i = g_pos ps pp.1 := g_pos_of hf
  refine lv_istore_n (lv' := [(2, .int (nI i)), (0, .ref a), (1, .ref q)]) hx hb d_Th_propertiesWith_8 rfl hl (by decide) rfl (fun ls hl => ?_)
  refine lv_iload_n hx hb d_Th_propertiesWith_9 rfl (lv_at hl 0 rfl) ?_
  refine lv_aload_n hx hb d_Th_propertiesWith_10 rfl (lv_at hl 1 rfl) ?_
  refine va_get (D := D) (ci := 5) (v := .ref pa) (C := R_Nd) (T := F_Nd) (N := 2) hx hb hts i_Nd hown hK (hv_one hP h0) 0 rfl rfl 0 (by decide) (hts _ k_Th_7) (fun _ h9 => h9) rfl d_Th_propertiesWith_11 ?_
  refine va_alen (v := nI ps.length) hx hb hK (hv_one hP hp) 0 4 rfl rfl rfl d_Th_propertiesWith_14 ?_
  refine gk_icmp_ge (x := i) (y := ps.length) (tgt := 26) hx hb d_Th_propertiesWith_15 (by decide) (by omega) (by omega) (fun c15 => ?_) (fun c15 => ?_)
  · refine lv_aload_n hx hb d_Th_propertiesWith_26 rfl (lv_at hl 1 rfl) ?_
    refine va_get (D := D) (ci := 5) (v := .ref pa) (C := R_Nd) (T := F_Nd) (N := 2) hx hb hts i_Nd hown hK (hv_one hP h0) 0 rfl rfl 0 (by decide) (hts _ k_Th_7) (fun _ h9 => h9) rfl d_Th_propertiesWith_27 ?_
    refine va_alen (v := nI ps.length) hx hb hK (hv_one hP hp) 0 4 rfl rfl rfl d_Th_propertiesWith_30 ?_
    refine lv_iconst (v := 1) hx hb d_Th_propertiesWith_31 (by decide) ?_
    refine gk_iadd (x := ps.length) (y := 1) hx hb d_Th_propertiesWith_32 ?_
    refine lv_istore_n (lv' := [(3, .int (nI (ps.length + 1))), (2, .int (nI i)), (0, .ref a), (1, .ref q)]) hx hb d_Th_propertiesWith_33 rfl hl (by decide) rfl (fun ls hl => ?_)
    refine lv_iload_n hx hb d_Th_propertiesWith_34 rfl (lv_at hl 0 rfl) ?_
    refine hv_newq hx hb hown (hts _ k_Th_18) (hv_over C hZ ko_Pr) hK hP hS hZ.2.1 4 rfl (N' := ps.length + 1) (nI_pos (by omega)) (nI_clamp (by omega)) (by omega) (Nat.le_of_ble_eq_true rfl) (by show _ + _ ≤ 7; omega) d_Th_propertiesWith_35 (fun q3 H hq4 hP hS => ?_)
    obtain ⟨w5, ew5⟩ : ∃ z9 : hv_W, z9 = va_up w q3 (some (.inl (ca 4, ps.length + 1, .inr (.inr (.inr (.inr (fun _ => none))))))) := ⟨_, rfl⟩
    have hP : hv_P D classes s0.heap.size w5 H := by rw [ew5]; exact hP
    have h6 : w5 a = some (.inr (5, [.ref pa, .ref lb])) := by rw [ew5]; exact hv_up_f hq4 h0
    have h7 : w5 pa = some (.inl (ca 4, ps.length, .inr (.inr (.inr (.inr pf))))) := by rw [ew5]; exact hv_up_f hq4 hp
    have h8 : w5 q = some (.inr (4, [.int pp.1, .int pp.2.1, .long pp.2.2.1, .ref t])) := by rw [ew5]; exact hv_up_f hq4 hq2
    have h9 : w5 q3 = some (.inl (ca 4, ps.length + 1, .inr (.inr (.inr (.inr (fun _ => none)))))) := by rw [ew5]; exact hv_up_s
    refine W.widen (k := 1) (n := 7) (by omega) (by omega) ?_
    show W _ _ _ _ _ _ _ _ _ _ _ _ _ _ _ (F0 m 38 ls [.ref q3])
    have hg0 : g_grow w w5 := by rw [ew5]; exact g_grow.new hq4
    refine lv_astore (lv' := [(4, .ref q3), (3, .int (nI (ps.length + 1))), (2, .int (nI i)), (0, .ref a), (1, .ref q)]) hx hb d_Th_propertiesWith_38 hl (by decide) rfl (fun ls hl => ?_)
    refine lv_iconst (v := 0) hx hb d_Th_propertiesWith_40 (by decide) ?_
    refine lv_istore (lv' := [(5, .int 0), (4, .ref q3), (3, .int (nI (ps.length + 1))), (2, .int (nI i)), (0, .ref a), (1, .ref q)]) hx hb d_Th_propertiesWith_41 hl (by decide) rfl (fun ls hl => ?_)
    have lp : ∀ (n9 : Nat) (k : Nat) (g : Nat → Option Nat) (z : hv_W), (ps.length + 1) - k < n9 → (k ≤ (ps.length + 1)) → (z q3 = some (.inl (ca 4, ps.length + 1, .inr (.inr (.inr (.inr g)))))) → (g_grow w z) → (∀ j, j < k → g j = (fun j => if j = i then some q else pf j) j) → ∀ (H : Heap) (locs : List Loc) (ls : Array Slot), hv_P D classes s0.heap.size z H → va_S (hv_A s0.heap.size) s.heap H locs → lv_has ls 6 [(0, .ref a), (1, .ref q), (2, .int (nI i)), (3, .int (nI (ps.length + 1))), (4, .ref q3), (5, .int (nI k))] → W p l e rm_Th_propertiesWithN s m ([.ref a, .ref q] : List Value).toArray below meth c H locs 1 7 Q (F0 m 43 ls []) := by
      intro n9
      induction n9 with
      | zero =>
        intro k g z hn9
        exact absurd hn9 (Nat.not_lt_zero _)
      | succ n9 ih =>
        intro k g z hn9 hi9 hz hg hj H locs ls hP hS hl
        refine lv_iload hx hb d_Th_propertiesWith_43 (lv_at hl 5 rfl) ?_
        refine lv_iload_n hx hb d_Th_propertiesWith_45 rfl (lv_at hl 3 rfl) ?_
        refine gk_icmp_ge (x := k) (y := ps.length + 1) (tgt := 77) hx hb d_Th_propertiesWith_46 (by decide) (by omega) (by omega) (fun c46 => ?_) (fun c46 => ?_)
        · refine lv_aload hx hb d_Th_propertiesWith_77 (lv_at hl 4 rfl) ?_
          exact hv_aret (v := some q3) hQ hx hb hr (Or.inr ⟨_, rfl⟩) hZ hS hP hlocks d_Th_propertiesWith_79 (⟨q3, rfl, hq4, g_props_with (n := ps.length + 1) (fun hm => hMu _ hm hq4) (by rw [← hip]; exact (if_neg (by omega)).symm) hz (fun j hj9 => by obtain ⟨q9, p9, e1, e2, e3⟩ := hpe j hj9; exact ⟨q9, p9, e1, e2, e3.k hg.keep⟩) (hq.k hg.keep) (fun j hj9 => by rw [← hip]; exact hj j (by omega)), hg⟩)
        · refine lv_aload hx hb d_Th_propertiesWith_49 (lv_at hl 4 rfl) ?_
          refine lv_iload hx hb d_Th_propertiesWith_51 (lv_at hl 5 rfl) ?_
          refine lv_iload hx hb d_Th_propertiesWith_53 (lv_at hl 5 rfl) ?_
          refine lv_iload_n hx hb d_Th_propertiesWith_55 rfl (lv_at hl 2 rfl) ?_
          refine gk_icmp_ne (x := k) (y := i) (tgt := 63) hx hb d_Th_propertiesWith_56 (by decide) (by omega) (by omega) (fun c56 => ?_) (fun c56 => ?_)
          · refine lv_aload_n hx hb d_Th_propertiesWith_63 rfl (lv_at hl 0 rfl) ?_
            refine va_get (D := D) (ci := 5) (v := .ref pa) (C := R_Nd) (T := F_Nd) (N := 2) hx hb hts i_Nd hown hK (hv_one hP (hg _ _ h0)) 0 rfl rfl 0 (by decide) (hts _ k_Th_7) (fun _ h9 => h9) rfl d_Th_propertiesWith_64 ?_
            refine lv_iload hx hb d_Th_propertiesWith_67 (lv_at hl 5 rfl) ?_
            refine va_aldq hx hb hK (hv_one hP (hg _ _ hp)) 0 4 rfl rfl (vp_in_nI (n := k) (by omega) (by omega)) d_Th_propertiesWith_69 ?_
            rw [nI_clamp (n := k) (by omega)]
            obtain ⟨qe, pe, hq1, hp1, hqe⟩ := hpe (k) (by omega)
            rw [hq1]
            have hqc := hqe.2.choose_spec.1
            show W _ _ _ _ _ _ _ _ _ _ _ _ _ _ _ (F0 m 70 ls [.ref qe, .int (nI k), .ref q3])
            refine hv_astq hx hb hK hP hS 4 4 hz rfl (hg _ _ hqc) rfl (vp_in_nI (n := k) (by omega) (by omega)) d_Th_propertiesWith_70 (fun H locs hP hS => ?_)
            rw [nI_clamp (n := k) (by omega)] at hP
            obtain ⟨w10, ew10⟩ : ∃ z9 : hv_W, z9 = va_up z q3 (some (.inl (ca 4, ps.length + 1, .inr (.inr (.inr (.inr (va_up g k (some qe)))))))) := ⟨_, rfl⟩
            have hP : hv_P D classes s0.heap.size w10 H := by rw [ew10]; exact hP
            have h11 : w10 a = some (.inr (5, [.ref pa, .ref lb])) := by rw [ew10]; exact hv_up_k (hg _ _ h0) (hv_ne_f hq4 h0)
            have h12 : w10 pa = some (.inl (ca 4, ps.length, .inr (.inr (.inr (.inr pf))))) := by rw [ew10]; exact hv_up_k (hg _ _ hp) (hv_ne_f hq4 hp)
            have h13 : w10 q = some (.inr (4, [.int pp.1, .int pp.2.1, .long pp.2.2.1, .ref t])) := by rw [ew10]; exact hv_up_k (hg _ _ hq2) (hv_ne_f hq4 hq2)
            have h14 : w10 qe = some (.inr (4, [.int pe.1, .int pe.2.1, .long pe.2.2.1, .ref hqe.2.choose])) := by rw [ew10]; exact hv_up_k (hg _ _ hqc) (hv_ne_f hq4 hqc)
            have h15 : w10 q3 = some (.inl (ca 4, ps.length + 1, .inr (.inr (.inr (.inr (va_up g k (some qe))))))) := by rw [ew10]; exact hv_up_s
            refine lv_iinc (v := (nI (k + 1))) (lv' := [(5, .int ((nI (k + 1)))), (0, .ref a), (1, .ref q), (2, .int (nI i)), (3, .int (nI (ps.length + 1))), (4, .ref q3)]) hx hb d_Th_propertiesWith_71 hl (k := 5) rfl (nI_add k 1) (by decide) rfl (fun ls hl => ?_)
            refine lv_goto (tgt := 43) hx hb d_Th_propertiesWith_74 (by decide) ?_
            exact ih (k + 1) (va_up g k (some qe)) w10 (by omega) (by omega) h15 (g_grow.upd hq4 hg ⟨h15, fun b hb => by rw [ew10, hv_up_n hb]⟩) (gk_fill (f := fun j => if j = i then some q else pf j) hj (by show some qe = (if k = i then some q else pf k); rw [if_neg c56, hq1])) _ _ _ hP hS (lv_sub hl [1, 2, 3, 4, 5, 0] rfl)
          · refine lv_aload_n hx hb d_Th_propertiesWith_59 rfl (lv_at hl 1 rfl) ?_
            refine lv_goto (tgt := 70) hx hb d_Th_propertiesWith_60 (by decide) ?_
            refine hv_astq hx hb hK hP hS 4 4 hz rfl (hg _ _ hq2) rfl (vp_in_nI (n := k) (by omega) (by omega)) d_Th_propertiesWith_70 (fun H locs hP hS => ?_)
            rw [nI_clamp (n := k) (by omega)] at hP
            obtain ⟨w16, ew16⟩ : ∃ z9 : hv_W, z9 = va_up z q3 (some (.inl (ca 4, ps.length + 1, .inr (.inr (.inr (.inr (va_up g k (some q)))))))) := ⟨_, rfl⟩
            have hP : hv_P D classes s0.heap.size w16 H := by rw [ew16]; exact hP
            have h17 : w16 a = some (.inr (5, [.ref pa, .ref lb])) := by rw [ew16]; exact hv_up_k (hg _ _ h0) (hv_ne_f hq4 h0)
            have h18 : w16 pa = some (.inl (ca 4, ps.length, .inr (.inr (.inr (.inr pf))))) := by rw [ew16]; exact hv_up_k (hg _ _ hp) (hv_ne_f hq4 hp)
            have h19 : w16 q = some (.inr (4, [.int pp.1, .int pp.2.1, .long pp.2.2.1, .ref t])) := by rw [ew16]; exact hv_up_k (hg _ _ hq2) (hv_ne_f hq4 hq2)
            have h20 : w16 q3 = some (.inl (ca 4, ps.length + 1, .inr (.inr (.inr (.inr (va_up g k (some q))))))) := by rw [ew16]; exact hv_up_s
            refine lv_iinc (v := (nI (k + 1))) (lv' := [(5, .int ((nI (k + 1)))), (0, .ref a), (1, .ref q), (2, .int (nI i)), (3, .int (nI (ps.length + 1))), (4, .ref q3)]) hx hb d_Th_propertiesWith_71 hl (k := 5) rfl (nI_add k 1) (by decide) rfl (fun ls hl => ?_)
            refine lv_goto (tgt := 43) hx hb d_Th_propertiesWith_74 (by decide) ?_
            exact ih (k + 1) (va_up g k (some q)) w16 (by omega) (by omega) h20 (g_grow.upd hq4 hg ⟨h20, fun b hb => by rw [ew16, hv_up_n hb]⟩) (gk_fill (f := fun j => if j = i then some q else pf j) hj (by show some q = (if k = i then some q else pf k); rw [if_pos c56])) _ _ _ hP hS (lv_sub hl [1, 2, 3, 4, 5, 0] rfl)
    exact lp _ 0 (fun _ => none) w5 (Nat.lt_succ_self _) (Nat.zero_le _) h9 hg0 (fun j q => absurd q (Nat.not_lt_zero _)) _ _ _ hP hS (lv_sub hl [4, 5, 3, 2, 1, 0] rfl)
  · refine lv_aload_n hx hb d_Th_propertiesWith_18 rfl (lv_at hl 1 rfl) ?_
    refine va_get (D := D) (ci := 5) (v := .ref pa) (C := R_Nd) (T := F_Nd) (N := 2) hx hb hts i_Nd hown hK (hv_one hP h0) 0 rfl rfl 0 (by decide) (hts _ k_Th_7) (fun _ h9 => h9) rfl d_Th_propertiesWith_19 ?_
    refine va_alen (v := nI ps.length) hx hb hK (hv_one hP hp) 0 4 rfl rfl rfl d_Th_propertiesWith_22 ?_
    refine lv_goto (tgt := 33) hx hb d_Th_propertiesWith_23 (by decide) ?_
    refine lv_istore_n (lv' := [(3, .int (nI ps.length)), (2, .int (nI i)), (0, .ref a), (1, .ref q)]) hx hb d_Th_propertiesWith_33 rfl hl (by decide) rfl (fun ls hl => ?_)
    refine lv_iload_n hx hb d_Th_propertiesWith_34 rfl (lv_at hl 0 rfl) ?_
    refine hv_newq hx hb hown (hts _ k_Th_18) (hv_over C hZ ko_Pr) hK hP hS hZ.2.1 4 rfl (N' := ps.length) (nI_pos (by omega)) (nI_clamp (by omega)) (by omega) (Nat.le_of_ble_eq_true rfl) (by show _ + _ ≤ 7; omega) d_Th_propertiesWith_35 (fun q21 H hq22 hP hS => ?_)
    obtain ⟨w23, ew23⟩ : ∃ z9 : hv_W, z9 = va_up w q21 (some (.inl (ca 4, ps.length, .inr (.inr (.inr (.inr (fun _ => none))))))) := ⟨_, rfl⟩
    have hP : hv_P D classes s0.heap.size w23 H := by rw [ew23]; exact hP
    have h24 : w23 a = some (.inr (5, [.ref pa, .ref lb])) := by rw [ew23]; exact hv_up_f hq22 h0
    have h25 : w23 pa = some (.inl (ca 4, ps.length, .inr (.inr (.inr (.inr pf))))) := by rw [ew23]; exact hv_up_f hq22 hp
    have h26 : w23 q = some (.inr (4, [.int pp.1, .int pp.2.1, .long pp.2.2.1, .ref t])) := by rw [ew23]; exact hv_up_f hq22 hq2
    have h27 : w23 q21 = some (.inl (ca 4, ps.length, .inr (.inr (.inr (.inr (fun _ => none)))))) := by rw [ew23]; exact hv_up_s
    refine W.widen (k := 1) (n := 7) (by omega) (by omega) ?_
    show W _ _ _ _ _ _ _ _ _ _ _ _ _ _ _ (F0 m 38 ls [.ref q21])
    have hg0 : g_grow w w23 := by rw [ew23]; exact g_grow.new hq22
    refine lv_astore (lv' := [(4, .ref q21), (3, .int (nI ps.length)), (2, .int (nI i)), (0, .ref a), (1, .ref q)]) hx hb d_Th_propertiesWith_38 hl (by decide) rfl (fun ls hl => ?_)
    refine lv_iconst (v := 0) hx hb d_Th_propertiesWith_40 (by decide) ?_
    refine lv_istore (lv' := [(5, .int 0), (4, .ref q21), (3, .int (nI ps.length)), (2, .int (nI i)), (0, .ref a), (1, .ref q)]) hx hb d_Th_propertiesWith_41 hl (by decide) rfl (fun ls hl => ?_)
    have lp : ∀ (n9 : Nat) (k : Nat) (g : Nat → Option Nat) (z : hv_W), ps.length - k < n9 → (k ≤ ps.length) → (z q21 = some (.inl (ca 4, ps.length, .inr (.inr (.inr (.inr g)))))) → (g_grow w z) → (∀ j, j < k → g j = (fun j => if j = i then some q else pf j) j) → ∀ (H : Heap) (locs : List Loc) (ls : Array Slot), hv_P D classes s0.heap.size z H → va_S (hv_A s0.heap.size) s.heap H locs → lv_has ls 6 [(0, .ref a), (1, .ref q), (2, .int (nI i)), (3, .int (nI ps.length)), (4, .ref q21), (5, .int (nI k))] → W p l e rm_Th_propertiesWithN s m ([.ref a, .ref q] : List Value).toArray below meth c H locs 1 7 Q (F0 m 43 ls []) := by
      intro n9
      induction n9 with
      | zero =>
        intro k g z hn9
        exact absurd hn9 (Nat.not_lt_zero _)
      | succ n9 ih =>
        intro k g z hn9 hi9 hz hg hj H locs ls hP hS hl
        refine lv_iload hx hb d_Th_propertiesWith_43 (lv_at hl 5 rfl) ?_
        refine lv_iload_n hx hb d_Th_propertiesWith_45 rfl (lv_at hl 3 rfl) ?_
        refine gk_icmp_ge (x := k) (y := ps.length) (tgt := 77) hx hb d_Th_propertiesWith_46 (by decide) (by omega) (by omega) (fun c46 => ?_) (fun c46 => ?_)
        · refine lv_aload hx hb d_Th_propertiesWith_77 (lv_at hl 4 rfl) ?_
          exact hv_aret (v := some q21) hQ hx hb hr (Or.inr ⟨_, rfl⟩) hZ hS hP hlocks d_Th_propertiesWith_79 (⟨q21, rfl, hq22, g_props_with (n := ps.length) (fun hm => hMu _ hm hq22) (by rw [← hip]; exact (if_pos c15).symm) hz (fun j hj9 => by obtain ⟨q9, p9, e1, e2, e3⟩ := hpe j hj9; exact ⟨q9, p9, e1, e2, e3.k hg.keep⟩) (hq.k hg.keep) (fun j hj9 => by rw [← hip]; exact hj j (by omega)), hg⟩)
        · refine lv_aload hx hb d_Th_propertiesWith_49 (lv_at hl 4 rfl) ?_
          refine lv_iload hx hb d_Th_propertiesWith_51 (lv_at hl 5 rfl) ?_
          refine lv_iload hx hb d_Th_propertiesWith_53 (lv_at hl 5 rfl) ?_
          refine lv_iload_n hx hb d_Th_propertiesWith_55 rfl (lv_at hl 2 rfl) ?_
          refine gk_icmp_ne (x := k) (y := i) (tgt := 63) hx hb d_Th_propertiesWith_56 (by decide) (by omega) (by omega) (fun c56 => ?_) (fun c56 => ?_)
          · refine lv_aload_n hx hb d_Th_propertiesWith_63 rfl (lv_at hl 0 rfl) ?_
            refine va_get (D := D) (ci := 5) (v := .ref pa) (C := R_Nd) (T := F_Nd) (N := 2) hx hb hts i_Nd hown hK (hv_one hP (hg _ _ h0)) 0 rfl rfl 0 (by decide) (hts _ k_Th_7) (fun _ h9 => h9) rfl d_Th_propertiesWith_64 ?_
            refine lv_iload hx hb d_Th_propertiesWith_67 (lv_at hl 5 rfl) ?_
            refine va_aldq hx hb hK (hv_one hP (hg _ _ hp)) 0 4 rfl rfl (vp_in_nI (n := k) (by omega) (by omega)) d_Th_propertiesWith_69 ?_
            rw [nI_clamp (n := k) (by omega)]
            obtain ⟨qe, pe, hq1, hp1, hqe⟩ := hpe (k) (by omega)
            rw [hq1]
            have hqc := hqe.2.choose_spec.1
            show W _ _ _ _ _ _ _ _ _ _ _ _ _ _ _ (F0 m 70 ls [.ref qe, .int (nI k), .ref q21])
            refine hv_astq hx hb hK hP hS 4 4 hz rfl (hg _ _ hqc) rfl (vp_in_nI (n := k) (by omega) (by omega)) d_Th_propertiesWith_70 (fun H locs hP hS => ?_)
            rw [nI_clamp (n := k) (by omega)] at hP
            obtain ⟨w28, ew28⟩ : ∃ z9 : hv_W, z9 = va_up z q21 (some (.inl (ca 4, ps.length, .inr (.inr (.inr (.inr (va_up g k (some qe)))))))) := ⟨_, rfl⟩
            have hP : hv_P D classes s0.heap.size w28 H := by rw [ew28]; exact hP
            have h29 : w28 a = some (.inr (5, [.ref pa, .ref lb])) := by rw [ew28]; exact hv_up_k (hg _ _ h0) (hv_ne_f hq22 h0)
            have h30 : w28 pa = some (.inl (ca 4, ps.length, .inr (.inr (.inr (.inr pf))))) := by rw [ew28]; exact hv_up_k (hg _ _ hp) (hv_ne_f hq22 hp)
            have h31 : w28 q = some (.inr (4, [.int pp.1, .int pp.2.1, .long pp.2.2.1, .ref t])) := by rw [ew28]; exact hv_up_k (hg _ _ hq2) (hv_ne_f hq22 hq2)
            have h32 : w28 qe = some (.inr (4, [.int pe.1, .int pe.2.1, .long pe.2.2.1, .ref hqe.2.choose])) := by rw [ew28]; exact hv_up_k (hg _ _ hqc) (hv_ne_f hq22 hqc)
            have h33 : w28 q21 = some (.inl (ca 4, ps.length, .inr (.inr (.inr (.inr (va_up g k (some qe))))))) := by rw [ew28]; exact hv_up_s
            refine lv_iinc (v := (nI (k + 1))) (lv' := [(5, .int ((nI (k + 1)))), (0, .ref a), (1, .ref q), (2, .int (nI i)), (3, .int (nI ps.length)), (4, .ref q21)]) hx hb d_Th_propertiesWith_71 hl (k := 5) rfl (nI_add k 1) (by decide) rfl (fun ls hl => ?_)
            refine lv_goto (tgt := 43) hx hb d_Th_propertiesWith_74 (by decide) ?_
            exact ih (k + 1) (va_up g k (some qe)) w28 (by omega) (by omega) h33 (g_grow.upd hq22 hg ⟨h33, fun b hb => by rw [ew28, hv_up_n hb]⟩) (gk_fill (f := fun j => if j = i then some q else pf j) hj (by show some qe = (if k = i then some q else pf k); rw [if_neg c56, hq1])) _ _ _ hP hS (lv_sub hl [1, 2, 3, 4, 5, 0] rfl)
          · refine lv_aload_n hx hb d_Th_propertiesWith_59 rfl (lv_at hl 1 rfl) ?_
            refine lv_goto (tgt := 70) hx hb d_Th_propertiesWith_60 (by decide) ?_
            refine hv_astq hx hb hK hP hS 4 4 hz rfl (hg _ _ hq2) rfl (vp_in_nI (n := k) (by omega) (by omega)) d_Th_propertiesWith_70 (fun H locs hP hS => ?_)
            rw [nI_clamp (n := k) (by omega)] at hP
            obtain ⟨w34, ew34⟩ : ∃ z9 : hv_W, z9 = va_up z q21 (some (.inl (ca 4, ps.length, .inr (.inr (.inr (.inr (va_up g k (some q)))))))) := ⟨_, rfl⟩
            have hP : hv_P D classes s0.heap.size w34 H := by rw [ew34]; exact hP
            have h35 : w34 a = some (.inr (5, [.ref pa, .ref lb])) := by rw [ew34]; exact hv_up_k (hg _ _ h0) (hv_ne_f hq22 h0)
            have h36 : w34 pa = some (.inl (ca 4, ps.length, .inr (.inr (.inr (.inr pf))))) := by rw [ew34]; exact hv_up_k (hg _ _ hp) (hv_ne_f hq22 hp)
            have h37 : w34 q = some (.inr (4, [.int pp.1, .int pp.2.1, .long pp.2.2.1, .ref t])) := by rw [ew34]; exact hv_up_k (hg _ _ hq2) (hv_ne_f hq22 hq2)
            have h38 : w34 q21 = some (.inl (ca 4, ps.length, .inr (.inr (.inr (.inr (va_up g k (some q))))))) := by rw [ew34]; exact hv_up_s
            refine lv_iinc (v := (nI (k + 1))) (lv' := [(5, .int ((nI (k + 1)))), (0, .ref a), (1, .ref q), (2, .int (nI i)), (3, .int (nI ps.length)), (4, .ref q21)]) hx hb d_Th_propertiesWith_71 hl (k := 5) rfl (nI_add k 1) (by decide) rfl (fun ls hl => ?_)
            refine lv_goto (tgt := 43) hx hb d_Th_propertiesWith_74 (by decide) ?_
            exact ih (k + 1) (va_up g k (some q)) w34 (by omega) (by omega) h38 (g_grow.upd hq22 hg ⟨h38, fun b hb => by rw [ew34, hv_up_n hb]⟩) (gk_fill (f := fun j => if j = i then some q else pf j) hj (by show some q = (if k = i then some q else pf k); rw [if_pos c56])) _ _ _ hP hS (lv_sub hl [1, 2, 3, 4, 5, 0] rfl)
    exact lp _ 0 (fun _ => none) w23 (Nat.lt_succ_self _) (Nat.zero_le _) h27 hg0 (fun j q => absurd q (Nat.not_lt_zero _)) _ _ _ hP hS (lv_sub hl [4, 5, 3, 2, 1, 0] rfl)

abbrev rm_Th_propertiesWithL : Room := { frames := 1, cells := 1, slots := 7, locals := 22 }
set_option maxHeartbeats 4000000 in
set_option maxRecDepth 100000 in
/-- propertiesWith(q) -/
theorem c_Th_propertiesWithL {l : Launch} {s0 : State} {D : va_G} {ca : Nat → ClassId} (C : hv_C l s0 D (hv_tys ca)) {w : hv_W} {a pa : Nat} {Mu : Nat → Prop} {ps : List gP} {q : Nat} {pp : gP} {sa ea ty : Int32} (hMu : ∀ b, Mu b → w b ≠ none) (h0 : w a = some (.inr (6, [.ref pa, .int sa, .int ea, .int ty]))) (hps : g_props ca Mu w pa ps) (hnp : ps.length ≤ 6) (hq : g_prop ca Mu w q pp)  :
    hv_Met l y_Th_propertiesWith [.code y_Th_propertiesWith b_Th_propertiesWith 6 (some (.array (.object "GraphKeep$Property")))] rm_Th_propertiesWithL (hv_Pc s0 D w [.ref a, .ref q]) (hv_Q s0 D (fun v w' => ∃ r, v = some (va_rf (some r)) ∧ w r = none ∧ g_props ca Mu w' r (g_put ps pp) ∧ g_grow w w') (fun _ _ => False)) 1 7 (hv_A s0.heap.size) := by
  refine hv_enter C _ (by decide) (Nat.le_of_ble_eq_true rfl) ?_
  intro p e s m below meth c ls Q hQ hx hb hr hml hown hts hK hZ hlocks hname hout htr hP hl
  have hown : s.vm.findClass R_Th = some m.cls := hown
  have hS : va_S (hv_A s0.heap.size) s.heap s.heap [] := va_S.rf
  have hl : lv_has ls 6 [(0, .ref a), (1, .ref q)] := hl
  obtain ⟨hpm, pf, hp, hpe⟩ := id hps
  obtain ⟨hqm, t, hq2, htx⟩ := id hq
  refine lv_aload_n hx hb d_Th_propertiesWith_0 rfl (lv_at hl 0 rfl) ?_
  refine lv_aload_n hx hb d_Th_propertiesWith_1 rfl (lv_at hl 1 rfl) ?_
  refine va_get (D := D) (ci := 4) (v := .int pp.1) (C := R_Pr) (T := F_Pr) (N := 4) hx hb hts i_Pr hown hK (hv_one hP hq2) 0 rfl rfl 0 (by decide) (hts _ k_Th_17) (fun _ h9 => h9) rfl d_Th_propertiesWith_2 ?_
  refine hv_call (hv_runV (As := [.int pp.1]) (rest := []) (c_Th_placeOfL C pp.1 h0 hps hnp) (hv_cw C hZ kc_Th_placeOf kn_Th ⟨rfl, rfl, Nat.le_of_ble_eq_true rfl, Nat.le_of_ble_eq_true rfl⟩) hv_blind (hv_pre hZ hS hP) hx hml hb hown (hts _ k_Th_13) (hts _ ki_Th_placeOf) (hv_selP C hZ (x := y_Th_propertyOf) rfl (by decide) ksel_Lk_Th_propertyOf kpr_Th_placeOf ki_Th_placeOf) hy_Th_placeOf (hts _ kc_Th_placeOf) (va_recv hK (hv_one hP h0) (ci := 6) (q0 := 0) rfl rfl) rfl hl.1 rfl (lv_room (Nat.le_of_ble_eq_true rfl)) d_Th_propertiesWith_5 ⟨Nat.le_of_ble_eq_true rfl, Nat.le_of_ble_eq_true rfl⟩) hZ hS (fun v9 w1 H locs q2 hP hS => ?_) (fun x9 w1 H locs q2 hP hS => q2.elim)
  obtain ⟨⟨i, hv9, hf⟩, hw9⟩ := q2
  subst hv9
  rw [hw9] at hP
  show W _ _ _ _ _ _ _ _ _ _ _ _ _ _ _ (F0 m 8 ls [.int (nI i)])
  have hi : i ≤ ps.length := hf.1
  have hip : i = g_pos ps pp.1 := g_pos_of hf
  refine lv_istore_n (lv' := [(2, .int (nI i)), (0, .ref a), (1, .ref q)]) hx hb d_Th_propertiesWith_8 rfl hl (by decide) rfl (fun ls hl => ?_)
  refine lv_iload_n hx hb d_Th_propertiesWith_9 rfl (lv_at hl 0 rfl) ?_
  refine lv_aload_n hx hb d_Th_propertiesWith_10 rfl (lv_at hl 1 rfl) ?_
  refine va_get (D := D) (ci := 6) (v := .ref pa) (C := R_Lk) (T := F_Lk) (N := 4) hx hb hts i_Lk hown hK (hv_one hP h0) 0 rfl rfl 0 (by decide) (hts _ k_Th_7) (fun _ h9 => h9) rfl d_Th_propertiesWith_11 ?_
  refine va_alen (v := nI ps.length) hx hb hK (hv_one hP hp) 0 4 rfl rfl rfl d_Th_propertiesWith_14 ?_
  refine gk_icmp_ge (x := i) (y := ps.length) (tgt := 26) hx hb d_Th_propertiesWith_15 (by decide) (by omega) (by omega) (fun c15 => ?_) (fun c15 => ?_)
  · refine lv_aload_n hx hb d_Th_propertiesWith_26 rfl (lv_at hl 1 rfl) ?_
    refine va_get (D := D) (ci := 6) (v := .ref pa) (C := R_Lk) (T := F_Lk) (N := 4) hx hb hts i_Lk hown hK (hv_one hP h0) 0 rfl rfl 0 (by decide) (hts _ k_Th_7) (fun _ h9 => h9) rfl d_Th_propertiesWith_27 ?_
    refine va_alen (v := nI ps.length) hx hb hK (hv_one hP hp) 0 4 rfl rfl rfl d_Th_propertiesWith_30 ?_
    refine lv_iconst (v := 1) hx hb d_Th_propertiesWith_31 (by decide) ?_
    refine gk_iadd (x := ps.length) (y := 1) hx hb d_Th_propertiesWith_32 ?_
    refine lv_istore_n (lv' := [(3, .int (nI (ps.length + 1))), (2, .int (nI i)), (0, .ref a), (1, .ref q)]) hx hb d_Th_propertiesWith_33 rfl hl (by decide) rfl (fun ls hl => ?_)
    refine lv_iload_n hx hb d_Th_propertiesWith_34 rfl (lv_at hl 0 rfl) ?_
    refine hv_newq hx hb hown (hts _ k_Th_18) (hv_over C hZ ko_Pr) hK hP hS hZ.2.1 4 rfl (N' := ps.length + 1) (nI_pos (by omega)) (nI_clamp (by omega)) (by omega) (Nat.le_of_ble_eq_true rfl) (by show _ + _ ≤ 7; omega) d_Th_propertiesWith_35 (fun q3 H hq4 hP hS => ?_)
    obtain ⟨w5, ew5⟩ : ∃ z9 : hv_W, z9 = va_up w q3 (some (.inl (ca 4, ps.length + 1, .inr (.inr (.inr (.inr (fun _ => none))))))) := ⟨_, rfl⟩
    have hP : hv_P D classes s0.heap.size w5 H := by rw [ew5]; exact hP
    have h6 : w5 a = some (.inr (6, [.ref pa, .int sa, .int ea, .int ty])) := by rw [ew5]; exact hv_up_f hq4 h0
    have h7 : w5 pa = some (.inl (ca 4, ps.length, .inr (.inr (.inr (.inr pf))))) := by rw [ew5]; exact hv_up_f hq4 hp
    have h8 : w5 q = some (.inr (4, [.int pp.1, .int pp.2.1, .long pp.2.2.1, .ref t])) := by rw [ew5]; exact hv_up_f hq4 hq2
    have h9 : w5 q3 = some (.inl (ca 4, ps.length + 1, .inr (.inr (.inr (.inr (fun _ => none)))))) := by rw [ew5]; exact hv_up_s
    refine W.widen (k := 1) (n := 7) (by omega) (by omega) ?_
    show W _ _ _ _ _ _ _ _ _ _ _ _ _ _ _ (F0 m 38 ls [.ref q3])
    have hg0 : g_grow w w5 := by rw [ew5]; exact g_grow.new hq4
    refine lv_astore (lv' := [(4, .ref q3), (3, .int (nI (ps.length + 1))), (2, .int (nI i)), (0, .ref a), (1, .ref q)]) hx hb d_Th_propertiesWith_38 hl (by decide) rfl (fun ls hl => ?_)
    refine lv_iconst (v := 0) hx hb d_Th_propertiesWith_40 (by decide) ?_
    refine lv_istore (lv' := [(5, .int 0), (4, .ref q3), (3, .int (nI (ps.length + 1))), (2, .int (nI i)), (0, .ref a), (1, .ref q)]) hx hb d_Th_propertiesWith_41 hl (by decide) rfl (fun ls hl => ?_)
    have lp : ∀ (n9 : Nat) (k : Nat) (g : Nat → Option Nat) (z : hv_W), (ps.length + 1) - k < n9 → (k ≤ (ps.length + 1)) → (z q3 = some (.inl (ca 4, ps.length + 1, .inr (.inr (.inr (.inr g)))))) → (g_grow w z) → (∀ j, j < k → g j = (fun j => if j = i then some q else pf j) j) → ∀ (H : Heap) (locs : List Loc) (ls : Array Slot), hv_P D classes s0.heap.size z H → va_S (hv_A s0.heap.size) s.heap H locs → lv_has ls 6 [(0, .ref a), (1, .ref q), (2, .int (nI i)), (3, .int (nI (ps.length + 1))), (4, .ref q3), (5, .int (nI k))] → W p l e rm_Th_propertiesWithL s m ([.ref a, .ref q] : List Value).toArray below meth c H locs 1 7 Q (F0 m 43 ls []) := by
      intro n9
      induction n9 with
      | zero =>
        intro k g z hn9
        exact absurd hn9 (Nat.not_lt_zero _)
      | succ n9 ih =>
        intro k g z hn9 hi9 hz hg hj H locs ls hP hS hl
        refine lv_iload hx hb d_Th_propertiesWith_43 (lv_at hl 5 rfl) ?_
        refine lv_iload_n hx hb d_Th_propertiesWith_45 rfl (lv_at hl 3 rfl) ?_
        refine gk_icmp_ge (x := k) (y := ps.length + 1) (tgt := 77) hx hb d_Th_propertiesWith_46 (by decide) (by omega) (by omega) (fun c46 => ?_) (fun c46 => ?_)
        · refine lv_aload hx hb d_Th_propertiesWith_77 (lv_at hl 4 rfl) ?_
          exact hv_aret (v := some q3) hQ hx hb hr (Or.inr ⟨_, rfl⟩) hZ hS hP hlocks d_Th_propertiesWith_79 (⟨q3, rfl, hq4, g_props_with (n := ps.length + 1) (fun hm => hMu _ hm hq4) (by rw [← hip]; exact (if_neg (by omega)).symm) hz (fun j hj9 => by obtain ⟨q9, p9, e1, e2, e3⟩ := hpe j hj9; exact ⟨q9, p9, e1, e2, e3.k hg.keep⟩) (hq.k hg.keep) (fun j hj9 => by rw [← hip]; exact hj j (by omega)), hg⟩)
        · refine lv_aload hx hb d_Th_propertiesWith_49 (lv_at hl 4 rfl) ?_
          refine lv_iload hx hb d_Th_propertiesWith_51 (lv_at hl 5 rfl) ?_
          refine lv_iload hx hb d_Th_propertiesWith_53 (lv_at hl 5 rfl) ?_
          refine lv_iload_n hx hb d_Th_propertiesWith_55 rfl (lv_at hl 2 rfl) ?_
          refine gk_icmp_ne (x := k) (y := i) (tgt := 63) hx hb d_Th_propertiesWith_56 (by decide) (by omega) (by omega) (fun c56 => ?_) (fun c56 => ?_)
          · refine lv_aload_n hx hb d_Th_propertiesWith_63 rfl (lv_at hl 0 rfl) ?_
            refine va_get (D := D) (ci := 6) (v := .ref pa) (C := R_Lk) (T := F_Lk) (N := 4) hx hb hts i_Lk hown hK (hv_one hP (hg _ _ h0)) 0 rfl rfl 0 (by decide) (hts _ k_Th_7) (fun _ h9 => h9) rfl d_Th_propertiesWith_64 ?_
            refine lv_iload hx hb d_Th_propertiesWith_67 (lv_at hl 5 rfl) ?_
            refine va_aldq hx hb hK (hv_one hP (hg _ _ hp)) 0 4 rfl rfl (vp_in_nI (n := k) (by omega) (by omega)) d_Th_propertiesWith_69 ?_
            rw [nI_clamp (n := k) (by omega)]
            obtain ⟨qe, pe, hq1, hp1, hqe⟩ := hpe (k) (by omega)
            rw [hq1]
            have hqc := hqe.2.choose_spec.1
            show W _ _ _ _ _ _ _ _ _ _ _ _ _ _ _ (F0 m 70 ls [.ref qe, .int (nI k), .ref q3])
            refine hv_astq hx hb hK hP hS 4 4 hz rfl (hg _ _ hqc) rfl (vp_in_nI (n := k) (by omega) (by omega)) d_Th_propertiesWith_70 (fun H locs hP hS => ?_)
            rw [nI_clamp (n := k) (by omega)] at hP
            obtain ⟨w10, ew10⟩ : ∃ z9 : hv_W, z9 = va_up z q3 (some (.inl (ca 4, ps.length + 1, .inr (.inr (.inr (.inr (va_up g k (some qe)))))))) := ⟨_, rfl⟩
            have hP : hv_P D classes s0.heap.size w10 H := by rw [ew10]; exact hP
            have h11 : w10 a = some (.inr (6, [.ref pa, .int sa, .int ea, .int ty])) := by rw [ew10]; exact hv_up_k (hg _ _ h0) (hv_ne_f hq4 h0)
            have h12 : w10 pa = some (.inl (ca 4, ps.length, .inr (.inr (.inr (.inr pf))))) := by rw [ew10]; exact hv_up_k (hg _ _ hp) (hv_ne_f hq4 hp)
            have h13 : w10 q = some (.inr (4, [.int pp.1, .int pp.2.1, .long pp.2.2.1, .ref t])) := by rw [ew10]; exact hv_up_k (hg _ _ hq2) (hv_ne_f hq4 hq2)
            have h14 : w10 qe = some (.inr (4, [.int pe.1, .int pe.2.1, .long pe.2.2.1, .ref hqe.2.choose])) := by rw [ew10]; exact hv_up_k (hg _ _ hqc) (hv_ne_f hq4 hqc)
            have h15 : w10 q3 = some (.inl (ca 4, ps.length + 1, .inr (.inr (.inr (.inr (va_up g k (some qe))))))) := by rw [ew10]; exact hv_up_s
            refine lv_iinc (v := (nI (k + 1))) (lv' := [(5, .int ((nI (k + 1)))), (0, .ref a), (1, .ref q), (2, .int (nI i)), (3, .int (nI (ps.length + 1))), (4, .ref q3)]) hx hb d_Th_propertiesWith_71 hl (k := 5) rfl (nI_add k 1) (by decide) rfl (fun ls hl => ?_)
            refine lv_goto (tgt := 43) hx hb d_Th_propertiesWith_74 (by decide) ?_
            exact ih (k + 1) (va_up g k (some qe)) w10 (by omega) (by omega) h15 (g_grow.upd hq4 hg ⟨h15, fun b hb => by rw [ew10, hv_up_n hb]⟩) (gk_fill (f := fun j => if j = i then some q else pf j) hj (by show some qe = (if k = i then some q else pf k); rw [if_neg c56, hq1])) _ _ _ hP hS (lv_sub hl [1, 2, 3, 4, 5, 0] rfl)
          · refine lv_aload_n hx hb d_Th_propertiesWith_59 rfl (lv_at hl 1 rfl) ?_
            refine lv_goto (tgt := 70) hx hb d_Th_propertiesWith_60 (by decide) ?_
            refine hv_astq hx hb hK hP hS 4 4 hz rfl (hg _ _ hq2) rfl (vp_in_nI (n := k) (by omega) (by omega)) d_Th_propertiesWith_70 (fun H locs hP hS => ?_)
            rw [nI_clamp (n := k) (by omega)] at hP
            obtain ⟨w16, ew16⟩ : ∃ z9 : hv_W, z9 = va_up z q3 (some (.inl (ca 4, ps.length + 1, .inr (.inr (.inr (.inr (va_up g k (some q)))))))) := ⟨_, rfl⟩
            have hP : hv_P D classes s0.heap.size w16 H := by rw [ew16]; exact hP
            have h17 : w16 a = some (.inr (6, [.ref pa, .int sa, .int ea, .int ty])) := by rw [ew16]; exact hv_up_k (hg _ _ h0) (hv_ne_f hq4 h0)
            have h18 : w16 pa = some (.inl (ca 4, ps.length, .inr (.inr (.inr (.inr pf))))) := by rw [ew16]; exact hv_up_k (hg _ _ hp) (hv_ne_f hq4 hp)
            have h19 : w16 q = some (.inr (4, [.int pp.1, .int pp.2.1, .long pp.2.2.1, .ref t])) := by rw [ew16]; exact hv_up_k (hg _ _ hq2) (hv_ne_f hq4 hq2)
            have h20 : w16 q3 = some (.inl (ca 4, ps.length + 1, .inr (.inr (.inr (.inr (va_up g k (some q))))))) := by rw [ew16]; exact hv_up_s
            refine lv_iinc (v := (nI (k + 1))) (lv' := [(5, .int ((nI (k + 1)))), (0, .ref a), (1, .ref q), (2, .int (nI i)), (3, .int (nI (ps.length + 1))), (4, .ref q3)]) hx hb d_Th_propertiesWith_71 hl (k := 5) rfl (nI_add k 1) (by decide) rfl (fun ls hl => ?_)
            refine lv_goto (tgt := 43) hx hb d_Th_propertiesWith_74 (by decide) ?_
            exact ih (k + 1) (va_up g k (some q)) w16 (by omega) (by omega) h20 (g_grow.upd hq4 hg ⟨h20, fun b hb => by rw [ew16, hv_up_n hb]⟩) (gk_fill (f := fun j => if j = i then some q else pf j) hj (by show some q = (if k = i then some q else pf k); rw [if_pos c56])) _ _ _ hP hS (lv_sub hl [1, 2, 3, 4, 5, 0] rfl)
    exact lp _ 0 (fun _ => none) w5 (Nat.lt_succ_self _) (Nat.zero_le _) h9 hg0 (fun j q => absurd q (Nat.not_lt_zero _)) _ _ _ hP hS (lv_sub hl [4, 5, 3, 2, 1, 0] rfl)
  · refine lv_aload_n hx hb d_Th_propertiesWith_18 rfl (lv_at hl 1 rfl) ?_
    refine va_get (D := D) (ci := 6) (v := .ref pa) (C := R_Lk) (T := F_Lk) (N := 4) hx hb hts i_Lk hown hK (hv_one hP h0) 0 rfl rfl 0 (by decide) (hts _ k_Th_7) (fun _ h9 => h9) rfl d_Th_propertiesWith_19 ?_
    refine va_alen (v := nI ps.length) hx hb hK (hv_one hP hp) 0 4 rfl rfl rfl d_Th_propertiesWith_22 ?_
    refine lv_goto (tgt := 33) hx hb d_Th_propertiesWith_23 (by decide) ?_
    refine lv_istore_n (lv' := [(3, .int (nI ps.length)), (2, .int (nI i)), (0, .ref a), (1, .ref q)]) hx hb d_Th_propertiesWith_33 rfl hl (by decide) rfl (fun ls hl => ?_)
    refine lv_iload_n hx hb d_Th_propertiesWith_34 rfl (lv_at hl 0 rfl) ?_
    refine hv_newq hx hb hown (hts _ k_Th_18) (hv_over C hZ ko_Pr) hK hP hS hZ.2.1 4 rfl (N' := ps.length) (nI_pos (by omega)) (nI_clamp (by omega)) (by omega) (Nat.le_of_ble_eq_true rfl) (by show _ + _ ≤ 7; omega) d_Th_propertiesWith_35 (fun q21 H hq22 hP hS => ?_)
    obtain ⟨w23, ew23⟩ : ∃ z9 : hv_W, z9 = va_up w q21 (some (.inl (ca 4, ps.length, .inr (.inr (.inr (.inr (fun _ => none))))))) := ⟨_, rfl⟩
    have hP : hv_P D classes s0.heap.size w23 H := by rw [ew23]; exact hP
    have h24 : w23 a = some (.inr (6, [.ref pa, .int sa, .int ea, .int ty])) := by rw [ew23]; exact hv_up_f hq22 h0
    have h25 : w23 pa = some (.inl (ca 4, ps.length, .inr (.inr (.inr (.inr pf))))) := by rw [ew23]; exact hv_up_f hq22 hp
    have h26 : w23 q = some (.inr (4, [.int pp.1, .int pp.2.1, .long pp.2.2.1, .ref t])) := by rw [ew23]; exact hv_up_f hq22 hq2
    have h27 : w23 q21 = some (.inl (ca 4, ps.length, .inr (.inr (.inr (.inr (fun _ => none)))))) := by rw [ew23]; exact hv_up_s
    refine W.widen (k := 1) (n := 7) (by omega) (by omega) ?_
    show W _ _ _ _ _ _ _ _ _ _ _ _ _ _ _ (F0 m 38 ls [.ref q21])
    have hg0 : g_grow w w23 := by rw [ew23]; exact g_grow.new hq22
    refine lv_astore (lv' := [(4, .ref q21), (3, .int (nI ps.length)), (2, .int (nI i)), (0, .ref a), (1, .ref q)]) hx hb d_Th_propertiesWith_38 hl (by decide) rfl (fun ls hl => ?_)
    refine lv_iconst (v := 0) hx hb d_Th_propertiesWith_40 (by decide) ?_
    refine lv_istore (lv' := [(5, .int 0), (4, .ref q21), (3, .int (nI ps.length)), (2, .int (nI i)), (0, .ref a), (1, .ref q)]) hx hb d_Th_propertiesWith_41 hl (by decide) rfl (fun ls hl => ?_)
    have lp : ∀ (n9 : Nat) (k : Nat) (g : Nat → Option Nat) (z : hv_W), ps.length - k < n9 → (k ≤ ps.length) → (z q21 = some (.inl (ca 4, ps.length, .inr (.inr (.inr (.inr g)))))) → (g_grow w z) → (∀ j, j < k → g j = (fun j => if j = i then some q else pf j) j) → ∀ (H : Heap) (locs : List Loc) (ls : Array Slot), hv_P D classes s0.heap.size z H → va_S (hv_A s0.heap.size) s.heap H locs → lv_has ls 6 [(0, .ref a), (1, .ref q), (2, .int (nI i)), (3, .int (nI ps.length)), (4, .ref q21), (5, .int (nI k))] → W p l e rm_Th_propertiesWithL s m ([.ref a, .ref q] : List Value).toArray below meth c H locs 1 7 Q (F0 m 43 ls []) := by
      intro n9
      induction n9 with
      | zero =>
        intro k g z hn9
        exact absurd hn9 (Nat.not_lt_zero _)
      | succ n9 ih =>
        intro k g z hn9 hi9 hz hg hj H locs ls hP hS hl
        refine lv_iload hx hb d_Th_propertiesWith_43 (lv_at hl 5 rfl) ?_
        refine lv_iload_n hx hb d_Th_propertiesWith_45 rfl (lv_at hl 3 rfl) ?_
        refine gk_icmp_ge (x := k) (y := ps.length) (tgt := 77) hx hb d_Th_propertiesWith_46 (by decide) (by omega) (by omega) (fun c46 => ?_) (fun c46 => ?_)
        · refine lv_aload hx hb d_Th_propertiesWith_77 (lv_at hl 4 rfl) ?_
          exact hv_aret (v := some q21) hQ hx hb hr (Or.inr ⟨_, rfl⟩) hZ hS hP hlocks d_Th_propertiesWith_79 (⟨q21, rfl, hq22, g_props_with (n := ps.length) (fun hm => hMu _ hm hq22) (by rw [← hip]; exact (if_pos c15).symm) hz (fun j hj9 => by obtain ⟨q9, p9, e1, e2, e3⟩ := hpe j hj9; exact ⟨q9, p9, e1, e2, e3.k hg.keep⟩) (hq.k hg.keep) (fun j hj9 => by rw [← hip]; exact hj j (by omega)), hg⟩)
        · refine lv_aload hx hb d_Th_propertiesWith_49 (lv_at hl 4 rfl) ?_
          refine lv_iload hx hb d_Th_propertiesWith_51 (lv_at hl 5 rfl) ?_
          refine lv_iload hx hb d_Th_propertiesWith_53 (lv_at hl 5 rfl) ?_
          refine lv_iload_n hx hb d_Th_propertiesWith_55 rfl (lv_at hl 2 rfl) ?_
          refine gk_icmp_ne (x := k) (y := i) (tgt := 63) hx hb d_Th_propertiesWith_56 (by decide) (by omega) (by omega) (fun c56 => ?_) (fun c56 => ?_)
          · refine lv_aload_n hx hb d_Th_propertiesWith_63 rfl (lv_at hl 0 rfl) ?_
            refine va_get (D := D) (ci := 6) (v := .ref pa) (C := R_Lk) (T := F_Lk) (N := 4) hx hb hts i_Lk hown hK (hv_one hP (hg _ _ h0)) 0 rfl rfl 0 (by decide) (hts _ k_Th_7) (fun _ h9 => h9) rfl d_Th_propertiesWith_64 ?_
            refine lv_iload hx hb d_Th_propertiesWith_67 (lv_at hl 5 rfl) ?_
            refine va_aldq hx hb hK (hv_one hP (hg _ _ hp)) 0 4 rfl rfl (vp_in_nI (n := k) (by omega) (by omega)) d_Th_propertiesWith_69 ?_
            rw [nI_clamp (n := k) (by omega)]
            obtain ⟨qe, pe, hq1, hp1, hqe⟩ := hpe (k) (by omega)
            rw [hq1]
            have hqc := hqe.2.choose_spec.1
            show W _ _ _ _ _ _ _ _ _ _ _ _ _ _ _ (F0 m 70 ls [.ref qe, .int (nI k), .ref q21])
            refine hv_astq hx hb hK hP hS 4 4 hz rfl (hg _ _ hqc) rfl (vp_in_nI (n := k) (by omega) (by omega)) d_Th_propertiesWith_70 (fun H locs hP hS => ?_)
            rw [nI_clamp (n := k) (by omega)] at hP
            obtain ⟨w28, ew28⟩ : ∃ z9 : hv_W, z9 = va_up z q21 (some (.inl (ca 4, ps.length, .inr (.inr (.inr (.inr (va_up g k (some qe)))))))) := ⟨_, rfl⟩
            have hP : hv_P D classes s0.heap.size w28 H := by rw [ew28]; exact hP
            have h29 : w28 a = some (.inr (6, [.ref pa, .int sa, .int ea, .int ty])) := by rw [ew28]; exact hv_up_k (hg _ _ h0) (hv_ne_f hq22 h0)
            have h30 : w28 pa = some (.inl (ca 4, ps.length, .inr (.inr (.inr (.inr pf))))) := by rw [ew28]; exact hv_up_k (hg _ _ hp) (hv_ne_f hq22 hp)
            have h31 : w28 q = some (.inr (4, [.int pp.1, .int pp.2.1, .long pp.2.2.1, .ref t])) := by rw [ew28]; exact hv_up_k (hg _ _ hq2) (hv_ne_f hq22 hq2)
            have h32 : w28 qe = some (.inr (4, [.int pe.1, .int pe.2.1, .long pe.2.2.1, .ref hqe.2.choose])) := by rw [ew28]; exact hv_up_k (hg _ _ hqc) (hv_ne_f hq22 hqc)
            have h33 : w28 q21 = some (.inl (ca 4, ps.length, .inr (.inr (.inr (.inr (va_up g k (some qe))))))) := by rw [ew28]; exact hv_up_s
            refine lv_iinc (v := (nI (k + 1))) (lv' := [(5, .int ((nI (k + 1)))), (0, .ref a), (1, .ref q), (2, .int (nI i)), (3, .int (nI ps.length)), (4, .ref q21)]) hx hb d_Th_propertiesWith_71 hl (k := 5) rfl (nI_add k 1) (by decide) rfl (fun ls hl => ?_)
            refine lv_goto (tgt := 43) hx hb d_Th_propertiesWith_74 (by decide) ?_
            exact ih (k + 1) (va_up g k (some qe)) w28 (by omega) (by omega) h33 (g_grow.upd hq22 hg ⟨h33, fun b hb => by rw [ew28, hv_up_n hb]⟩) (gk_fill (f := fun j => if j = i then some q else pf j) hj (by show some qe = (if k = i then some q else pf k); rw [if_neg c56, hq1])) _ _ _ hP hS (lv_sub hl [1, 2, 3, 4, 5, 0] rfl)
          · refine lv_aload_n hx hb d_Th_propertiesWith_59 rfl (lv_at hl 1 rfl) ?_
            refine lv_goto (tgt := 70) hx hb d_Th_propertiesWith_60 (by decide) ?_
            refine hv_astq hx hb hK hP hS 4 4 hz rfl (hg _ _ hq2) rfl (vp_in_nI (n := k) (by omega) (by omega)) d_Th_propertiesWith_70 (fun H locs hP hS => ?_)
            rw [nI_clamp (n := k) (by omega)] at hP
            obtain ⟨w34, ew34⟩ : ∃ z9 : hv_W, z9 = va_up z q21 (some (.inl (ca 4, ps.length, .inr (.inr (.inr (.inr (va_up g k (some q)))))))) := ⟨_, rfl⟩
            have hP : hv_P D classes s0.heap.size w34 H := by rw [ew34]; exact hP
            have h35 : w34 a = some (.inr (6, [.ref pa, .int sa, .int ea, .int ty])) := by rw [ew34]; exact hv_up_k (hg _ _ h0) (hv_ne_f hq22 h0)
            have h36 : w34 pa = some (.inl (ca 4, ps.length, .inr (.inr (.inr (.inr pf))))) := by rw [ew34]; exact hv_up_k (hg _ _ hp) (hv_ne_f hq22 hp)
            have h37 : w34 q = some (.inr (4, [.int pp.1, .int pp.2.1, .long pp.2.2.1, .ref t])) := by rw [ew34]; exact hv_up_k (hg _ _ hq2) (hv_ne_f hq22 hq2)
            have h38 : w34 q21 = some (.inl (ca 4, ps.length, .inr (.inr (.inr (.inr (va_up g k (some q))))))) := by rw [ew34]; exact hv_up_s
            refine lv_iinc (v := (nI (k + 1))) (lv' := [(5, .int ((nI (k + 1)))), (0, .ref a), (1, .ref q), (2, .int (nI i)), (3, .int (nI ps.length)), (4, .ref q21)]) hx hb d_Th_propertiesWith_71 hl (k := 5) rfl (nI_add k 1) (by decide) rfl (fun ls hl => ?_)
            refine lv_goto (tgt := 43) hx hb d_Th_propertiesWith_74 (by decide) ?_
            exact ih (k + 1) (va_up g k (some q)) w34 (by omega) (by omega) h38 (g_grow.upd hq22 hg ⟨h38, fun b hb => by rw [ew34, hv_up_n hb]⟩) (gk_fill (f := fun j => if j = i then some q else pf j) hj (by show some q = (if k = i then some q else pf k); rw [if_pos c56])) _ _ _ hP hS (lv_sub hl [1, 2, 3, 4, 5, 0] rfl)
    exact lp _ 0 (fun _ => none) w23 (Nat.lt_succ_self _) (Nat.zero_le _) h27 hg0 (fun j q => absurd q (Nat.not_lt_zero _)) _ _ _ hP hS (lv_sub hl [4, 5, 3, 2, 1, 0] rfl)

abbrev rm_Th_propertiesWithoutN : Room := { frames := 1, cells := 1, slots := 6, locals := 22 }
set_option maxHeartbeats 4000000 in
set_option maxRecDepth 100000 in
/-- propertiesWithout(x) -/
theorem c_Th_propertiesWithoutN {l : Launch} {s0 : State} {D : va_G} {ca : Nat → ClassId} (C : hv_C l s0 D (hv_tys ca)) {w : hv_W} {a pa : Nat} {Mu : Nat → Prop} {ps : List gP} {lb : Nat} (x : Int32) (hMu : ∀ b, Mu b → w b ≠ none) (h0 : w a = some (.inr (5, [.ref pa, .ref lb]))) (hps : g_props ca Mu w pa ps) (hnp : ps.length ≤ 6) (hxl : g_pos ps x < ps.length)  :
    hv_Met l y_Th_propertiesWithout [.code y_Th_propertiesWithout b_Th_propertiesWithout 5 (some (.array (.object "GraphKeep$Property")))] rm_Th_propertiesWithoutN (hv_Pc s0 D w [.ref a, .int x]) (hv_Q s0 D (fun v w' => ∃ r, v = some (va_rf (some r)) ∧ w r = none ∧ g_props ca Mu w' r (g_drop ps x) ∧ g_grow w w') (fun _ _ => False)) 1 6 (hv_A s0.heap.size) := by
  refine hv_enter C _ (by decide) (Nat.le_of_ble_eq_true rfl) ?_
  intro p e s m below meth c ls Q hQ hx hb hr hml hown hts hK hZ hlocks hname hout htr hP hl
  have hown : s.vm.findClass R_Th = some m.cls := hown
  have hS : va_S (hv_A s0.heap.size) s.heap s.heap [] := va_S.rf
  have hl : lv_has ls 5 [(0, .ref a), (1, .int x)] := hl
  obtain ⟨hpm, pf, hp, hpe⟩ := id hps
  refine lv_aload_n hx hb d_Th_propertiesWithout_0 rfl (lv_at hl 0 rfl) ?_
  refine lv_iload_n hx hb d_Th_propertiesWithout_1 rfl (lv_at hl 1 rfl) ?_
  refine hv_call (hv_runV (As := [.int x]) (rest := []) (c_Th_placeOfN C x h0 hps hnp) (hv_cw C hZ kc_Th_placeOf kn_Th ⟨rfl, rfl, Nat.le_of_ble_eq_true rfl, Nat.le_of_ble_eq_true rfl⟩) hv_blind (hv_pre hZ hS hP) hx hml hb hown (hts _ k_Th_13) (hts _ ki_Th_placeOf) (hv_selP C hZ (x := y_Th_propertyOf) rfl (by decide) ksel_Nd_Th_propertyOf kpr_Th_placeOf ki_Th_placeOf) hy_Th_placeOf (hts _ kc_Th_placeOf) (va_recv hK (hv_one hP h0) (ci := 5) (q0 := 0) rfl rfl) rfl hl.1 rfl (lv_room (Nat.le_of_ble_eq_true rfl)) d_Th_propertiesWithout_2 ⟨Nat.le_of_ble_eq_true rfl, Nat.le_of_ble_eq_true rfl⟩) hZ hS (fun v9 w1 H locs q2 hP hS => ?_) (fun x9 w1 H locs q2 hP hS => q2.elim)
  obtain ⟨⟨i, hv9, hf⟩, hw9⟩ := q2
  subst hv9
  rw [hw9] at hP
  show W _ _ _ _ _ _ _ _ _ _ _ _ _ _ _ (F0 m 5 ls [.int (nI i)])
  have hi : i ≤ ps.length := hf.1
  have hip : i = g_pos ps x := g_pos_of hf
  have hil : i < ps.length := by rw [hip]; exact hxl
  refine lv_istore_n (lv' := [(2, .int (nI i)), (0, .ref a), (1, .int x)]) hx hb d_Th_propertiesWithout_5 rfl hl (by decide) rfl (fun ls hl => ?_)
  refine lv_iload_n hx hb d_Th_propertiesWithout_6 rfl (lv_at hl 0 rfl) ?_
  refine lv_aload_n hx hb d_Th_propertiesWithout_7 rfl (lv_at hl 1 rfl) ?_
  refine va_get (D := D) (ci := 5) (v := .ref pa) (C := R_Nd) (T := F_Nd) (N := 2) hx hb hts i_Nd hown hK (hv_one hP h0) 0 rfl rfl 0 (by decide) (hts _ k_Th_7) (fun _ h9 => h9) rfl d_Th_propertiesWithout_8 ?_
  refine va_alen (v := nI ps.length) hx hb hK (hv_one hP hp) 0 4 rfl rfl rfl d_Th_propertiesWithout_11 ?_
  refine gk_icmp_lt (x := i) (y := ps.length) (tgt := 20) hx hb d_Th_propertiesWithout_12 (by decide) (by omega) (by omega) (fun c12 => ?_) (fun c12 => ?_)
  · refine lv_aload_n hx hb d_Th_propertiesWithout_20 rfl (lv_at hl 1 rfl) ?_
    refine va_get (D := D) (ci := 5) (v := .ref pa) (C := R_Nd) (T := F_Nd) (N := 2) hx hb hts i_Nd hown hK (hv_one hP h0) 0 rfl rfl 0 (by decide) (hts _ k_Th_7) (fun _ h9 => h9) rfl d_Th_propertiesWithout_21 ?_
    refine va_alen (v := nI ps.length) hx hb hK (hv_one hP hp) 0 4 rfl rfl rfl d_Th_propertiesWithout_24 ?_
    refine lv_iconst (v := 1) hx hb d_Th_propertiesWithout_25 (by decide) ?_
    refine gk_isub (x := ps.length) (y := 1) hx hb d_Th_propertiesWithout_26 (by omega) ?_
    refine hv_newq hx hb hown (hts _ k_Th_18) (hv_over C hZ ko_Pr) hK hP hS hZ.2.1 4 rfl (N' := ps.length - 1) (nI_pos (by omega)) (nI_clamp (by omega)) (by omega) (Nat.le_of_ble_eq_true rfl) (by show _ + _ ≤ 6; omega) d_Th_propertiesWithout_27 (fun q3 H hq4 hP hS => ?_)
    obtain ⟨w5, ew5⟩ : ∃ z9 : hv_W, z9 = va_up w q3 (some (.inl (ca 4, ps.length - 1, .inr (.inr (.inr (.inr (fun _ => none))))))) := ⟨_, rfl⟩
    have hP : hv_P D classes s0.heap.size w5 H := by rw [ew5]; exact hP
    have h6 : w5 a = some (.inr (5, [.ref pa, .ref lb])) := by rw [ew5]; exact hv_up_f hq4 h0
    have h7 : w5 pa = some (.inl (ca 4, ps.length, .inr (.inr (.inr (.inr pf))))) := by rw [ew5]; exact hv_up_f hq4 hp
    have h8 : w5 q3 = some (.inl (ca 4, ps.length - 1, .inr (.inr (.inr (.inr (fun _ => none)))))) := by rw [ew5]; exact hv_up_s
    refine W.widen (k := 1) (n := 6) (by omega) (by omega) ?_
    show W _ _ _ _ _ _ _ _ _ _ _ _ _ _ _ (F0 m 30 ls [.ref q3])
    have hg0 : g_grow w w5 := by rw [ew5]; exact g_grow.new hq4
    refine lv_astore_n (lv' := [(3, .ref q3), (2, .int (nI i)), (0, .ref a), (1, .int x)]) hx hb d_Th_propertiesWithout_30 rfl hl (by decide) rfl (fun ls hl => ?_)
    refine lv_iconst (v := 0) hx hb d_Th_propertiesWithout_31 (by decide) ?_
    refine lv_istore (lv' := [(4, .int 0), (3, .ref q3), (2, .int (nI i)), (0, .ref a), (1, .int x)]) hx hb d_Th_propertiesWithout_32 hl (by decide) rfl (fun ls hl => ?_)
    have lp : ∀ (n9 : Nat) (k : Nat) (g : Nat → Option Nat) (z : hv_W), (ps.length - 1) - k < n9 → (k ≤ (ps.length - 1)) → (z q3 = some (.inl (ca 4, ps.length - 1, .inr (.inr (.inr (.inr g)))))) → (g_grow w z) → (∀ j, j < k → g j = (fun j => pf (if j < i then j else j + 1)) j) → ∀ (H : Heap) (locs : List Loc) (ls : Array Slot), hv_P D classes s0.heap.size z H → va_S (hv_A s0.heap.size) s.heap H locs → lv_has ls 5 [(0, .ref a), (1, .int x), (2, .int (nI i)), (3, .ref q3), (4, .int (nI k))] → W p l e rm_Th_propertiesWithoutN s m ([.ref a, .int x] : List Value).toArray below meth c H locs 1 6 Q (F0 m 34 ls []) := by
      intro n9
      induction n9 with
      | zero =>
        intro k g z hn9
        exact absurd hn9 (Nat.not_lt_zero _)
      | succ n9 ih =>
        intro k g z hn9 hi9 hz hg hj H locs ls hP hS hl
        refine lv_iload hx hb d_Th_propertiesWithout_34 (lv_at hl 4 rfl) ?_
        refine lv_aload_n hx hb d_Th_propertiesWithout_36 rfl (lv_at hl 3 rfl) ?_
        refine va_alen (v := nI (ps.length - 1)) hx hb hK (hv_one hP hz) 0 4 rfl rfl rfl d_Th_propertiesWithout_37 ?_
        refine gk_icmp_ge (x := k) (y := ps.length - 1) (tgt := 71) hx hb d_Th_propertiesWithout_38 (by decide) (by omega) (by omega) (fun c38 => ?_) (fun c38 => ?_)
        · refine lv_aload_n hx hb d_Th_propertiesWithout_71 rfl (lv_at hl 3 rfl) ?_
          exact hv_aret (v := some q3) hQ hx hb hr (Or.inr ⟨_, rfl⟩) hZ hS hP hlocks d_Th_propertiesWithout_72 (⟨q3, rfl, hq4, by rw [g_drop, ← hip]; exact g_props_without (fun hm => hMu _ hm hq4) hil hz (fun j hj9 => by obtain ⟨q9, p9, e1, e2, e3⟩ := hpe j hj9; exact ⟨q9, p9, e1, e2, e3.k hg.keep⟩) (fun j hj9 => hj j (by omega)), hg⟩)
        · refine lv_aload_n hx hb d_Th_propertiesWithout_41 rfl (lv_at hl 3 rfl) ?_
          refine lv_iload hx hb d_Th_propertiesWithout_42 (lv_at hl 4 rfl) ?_
          refine lv_aload_n hx hb d_Th_propertiesWithout_44 rfl (lv_at hl 0 rfl) ?_
          refine va_get (D := D) (ci := 5) (v := .ref pa) (C := R_Nd) (T := F_Nd) (N := 2) hx hb hts i_Nd hown hK (hv_one hP (hg _ _ h0)) 0 rfl rfl 0 (by decide) (hts _ k_Th_7) (fun _ h9 => h9) rfl d_Th_propertiesWithout_45 ?_
          refine lv_iload hx hb d_Th_propertiesWithout_48 (lv_at hl 4 rfl) ?_
          refine lv_iload_n hx hb d_Th_propertiesWithout_50 rfl (lv_at hl 2 rfl) ?_
          refine gk_icmp_ge (x := k) (y := i) (tgt := 59) hx hb d_Th_propertiesWithout_51 (by decide) (by omega) (by omega) (fun c51 => ?_) (fun c51 => ?_)
          · refine lv_iload hx hb d_Th_propertiesWithout_59 (lv_at hl 4 rfl) ?_
            refine lv_iconst (v := 1) hx hb d_Th_propertiesWithout_61 (by decide) ?_
            refine gk_iadd (x := k) (y := 1) hx hb d_Th_propertiesWithout_62 ?_
            refine va_aldq hx hb hK (hv_one hP (hg _ _ hp)) 0 4 rfl rfl (vp_in_nI (n := k + 1) (by omega) (by omega)) d_Th_propertiesWithout_63 ?_
            rw [nI_clamp (n := k + 1) (by omega)]
            obtain ⟨qe, pe, hq1, hp1, hqe⟩ := hpe (k + 1) (by omega)
            rw [hq1]
            have hqc := hqe.2.choose_spec.1
            show W _ _ _ _ _ _ _ _ _ _ _ _ _ _ _ (F0 m 64 ls [.ref qe, .int (nI k), .ref q3])
            refine hv_astq hx hb hK hP hS 4 4 hz rfl (hg _ _ hqc) rfl (vp_in_nI (n := k) (by omega) (by omega)) d_Th_propertiesWithout_64 (fun H locs hP hS => ?_)
            rw [nI_clamp (n := k) (by omega)] at hP
            obtain ⟨w9, ew9⟩ : ∃ z9 : hv_W, z9 = va_up z q3 (some (.inl (ca 4, ps.length - 1, .inr (.inr (.inr (.inr (va_up g k (some qe)))))))) := ⟨_, rfl⟩
            have hP : hv_P D classes s0.heap.size w9 H := by rw [ew9]; exact hP
            have h10 : w9 a = some (.inr (5, [.ref pa, .ref lb])) := by rw [ew9]; exact hv_up_k (hg _ _ h0) (hv_ne_f hq4 h0)
            have h11 : w9 pa = some (.inl (ca 4, ps.length, .inr (.inr (.inr (.inr pf))))) := by rw [ew9]; exact hv_up_k (hg _ _ hp) (hv_ne_f hq4 hp)
            have h12 : w9 qe = some (.inr (4, [.int pe.1, .int pe.2.1, .long pe.2.2.1, .ref hqe.2.choose])) := by rw [ew9]; exact hv_up_k (hg _ _ hqc) (hv_ne_f hq4 hqc)
            have h13 : w9 q3 = some (.inl (ca 4, ps.length - 1, .inr (.inr (.inr (.inr (va_up g k (some qe))))))) := by rw [ew9]; exact hv_up_s
            refine lv_iinc (v := (nI (k + 1))) (lv' := [(4, .int ((nI (k + 1)))), (0, .ref a), (1, .int x), (2, .int (nI i)), (3, .ref q3)]) hx hb d_Th_propertiesWithout_65 hl (k := 4) rfl (nI_add k 1) (by decide) rfl (fun ls hl => ?_)
            refine lv_goto (tgt := 34) hx hb d_Th_propertiesWithout_68 (by decide) ?_
            exact ih (k + 1) (va_up g k (some qe)) w9 (by omega) (by omega) h13 (g_grow.upd hq4 hg ⟨h13, fun b hb => by rw [ew9, hv_up_n hb]⟩) (gk_fill (f := fun j => pf (if j < i then j else j + 1)) hj (by show some qe = pf (if k < i then k else k + 1); rw [if_neg (by omega), hq1])) _ _ _ hP hS (lv_sub hl [1, 2, 3, 4, 0] rfl)
          · refine lv_iload hx hb d_Th_propertiesWithout_54 (lv_at hl 4 rfl) ?_
            refine lv_goto (tgt := 63) hx hb d_Th_propertiesWithout_56 (by decide) ?_
            refine va_aldq hx hb hK (hv_one hP (hg _ _ hp)) 0 4 rfl rfl (vp_in_nI (n := k) (by omega) (by omega)) d_Th_propertiesWithout_63 ?_
            rw [nI_clamp (n := k) (by omega)]
            obtain ⟨qe, pe, hq1, hp1, hqe⟩ := hpe (k) (by omega)
            rw [hq1]
            have hqc := hqe.2.choose_spec.1
            show W _ _ _ _ _ _ _ _ _ _ _ _ _ _ _ (F0 m 64 ls [.ref qe, .int (nI k), .ref q3])
            refine hv_astq hx hb hK hP hS 4 4 hz rfl (hg _ _ hqc) rfl (vp_in_nI (n := k) (by omega) (by omega)) d_Th_propertiesWithout_64 (fun H locs hP hS => ?_)
            rw [nI_clamp (n := k) (by omega)] at hP
            obtain ⟨w14, ew14⟩ : ∃ z9 : hv_W, z9 = va_up z q3 (some (.inl (ca 4, ps.length - 1, .inr (.inr (.inr (.inr (va_up g k (some qe)))))))) := ⟨_, rfl⟩
            have hP : hv_P D classes s0.heap.size w14 H := by rw [ew14]; exact hP
            have h15 : w14 a = some (.inr (5, [.ref pa, .ref lb])) := by rw [ew14]; exact hv_up_k (hg _ _ h0) (hv_ne_f hq4 h0)
            have h16 : w14 pa = some (.inl (ca 4, ps.length, .inr (.inr (.inr (.inr pf))))) := by rw [ew14]; exact hv_up_k (hg _ _ hp) (hv_ne_f hq4 hp)
            have h17 : w14 qe = some (.inr (4, [.int pe.1, .int pe.2.1, .long pe.2.2.1, .ref hqe.2.choose])) := by rw [ew14]; exact hv_up_k (hg _ _ hqc) (hv_ne_f hq4 hqc)
            have h18 : w14 q3 = some (.inl (ca 4, ps.length - 1, .inr (.inr (.inr (.inr (va_up g k (some qe))))))) := by rw [ew14]; exact hv_up_s
            refine lv_iinc (v := (nI (k + 1))) (lv' := [(4, .int ((nI (k + 1)))), (0, .ref a), (1, .int x), (2, .int (nI i)), (3, .ref q3)]) hx hb d_Th_propertiesWithout_65 hl (k := 4) rfl (nI_add k 1) (by decide) rfl (fun ls hl => ?_)
            refine lv_goto (tgt := 34) hx hb d_Th_propertiesWithout_68 (by decide) ?_
            exact ih (k + 1) (va_up g k (some qe)) w14 (by omega) (by omega) h18 (g_grow.upd hq4 hg ⟨h18, fun b hb => by rw [ew14, hv_up_n hb]⟩) (gk_fill (f := fun j => pf (if j < i then j else j + 1)) hj (by show some qe = pf (if k < i then k else k + 1); rw [if_pos c51, hq1])) _ _ _ hP hS (lv_sub hl [1, 2, 3, 4, 0] rfl)
    exact lp _ 0 (fun _ => none) w5 (Nat.lt_succ_self _) (Nat.zero_le _) h8 hg0 (fun j q => absurd q (Nat.not_lt_zero _)) _ _ _ hP hS (lv_sub hl [3, 4, 2, 1, 0] rfl)
  · exact absurd hil (Nat.not_lt.mpr c12)

abbrev rm_Th_propertiesWithoutL : Room := { frames := 1, cells := 1, slots := 6, locals := 22 }
set_option maxHeartbeats 4000000 in
set_option maxRecDepth 100000 in
/-- propertiesWithout(x) -/
theorem c_Th_propertiesWithoutL {l : Launch} {s0 : State} {D : va_G} {ca : Nat → ClassId} (C : hv_C l s0 D (hv_tys ca)) {w : hv_W} {a pa : Nat} {Mu : Nat → Prop} {ps : List gP} {sa ea ty : Int32} (x : Int32) (hMu : ∀ b, Mu b → w b ≠ none) (h0 : w a = some (.inr (6, [.ref pa, .int sa, .int ea, .int ty]))) (hps : g_props ca Mu w pa ps) (hnp : ps.length ≤ 6) (hxl : g_pos ps x < ps.length)  :
    hv_Met l y_Th_propertiesWithout [.code y_Th_propertiesWithout b_Th_propertiesWithout 5 (some (.array (.object "GraphKeep$Property")))] rm_Th_propertiesWithoutL (hv_Pc s0 D w [.ref a, .int x]) (hv_Q s0 D (fun v w' => ∃ r, v = some (va_rf (some r)) ∧ w r = none ∧ g_props ca Mu w' r (g_drop ps x) ∧ g_grow w w') (fun _ _ => False)) 1 6 (hv_A s0.heap.size) := by
  refine hv_enter C _ (by decide) (Nat.le_of_ble_eq_true rfl) ?_
  intro p e s m below meth c ls Q hQ hx hb hr hml hown hts hK hZ hlocks hname hout htr hP hl
  have hown : s.vm.findClass R_Th = some m.cls := hown
  have hS : va_S (hv_A s0.heap.size) s.heap s.heap [] := va_S.rf
  have hl : lv_has ls 5 [(0, .ref a), (1, .int x)] := hl
  obtain ⟨hpm, pf, hp, hpe⟩ := id hps
  refine lv_aload_n hx hb d_Th_propertiesWithout_0 rfl (lv_at hl 0 rfl) ?_
  refine lv_iload_n hx hb d_Th_propertiesWithout_1 rfl (lv_at hl 1 rfl) ?_
  refine hv_call (hv_runV (As := [.int x]) (rest := []) (c_Th_placeOfL C x h0 hps hnp) (hv_cw C hZ kc_Th_placeOf kn_Th ⟨rfl, rfl, Nat.le_of_ble_eq_true rfl, Nat.le_of_ble_eq_true rfl⟩) hv_blind (hv_pre hZ hS hP) hx hml hb hown (hts _ k_Th_13) (hts _ ki_Th_placeOf) (hv_selP C hZ (x := y_Th_propertyOf) rfl (by decide) ksel_Lk_Th_propertyOf kpr_Th_placeOf ki_Th_placeOf) hy_Th_placeOf (hts _ kc_Th_placeOf) (va_recv hK (hv_one hP h0) (ci := 6) (q0 := 0) rfl rfl) rfl hl.1 rfl (lv_room (Nat.le_of_ble_eq_true rfl)) d_Th_propertiesWithout_2 ⟨Nat.le_of_ble_eq_true rfl, Nat.le_of_ble_eq_true rfl⟩) hZ hS (fun v9 w1 H locs q2 hP hS => ?_) (fun x9 w1 H locs q2 hP hS => q2.elim)
  obtain ⟨⟨i, hv9, hf⟩, hw9⟩ := q2
  subst hv9
  rw [hw9] at hP
  show W _ _ _ _ _ _ _ _ _ _ _ _ _ _ _ (F0 m 5 ls [.int (nI i)])
  have hi : i ≤ ps.length := hf.1
  have hip : i = g_pos ps x := g_pos_of hf
  have hil : i < ps.length := by rw [hip]; exact hxl
  refine lv_istore_n (lv' := [(2, .int (nI i)), (0, .ref a), (1, .int x)]) hx hb d_Th_propertiesWithout_5 rfl hl (by decide) rfl (fun ls hl => ?_)
  refine lv_iload_n hx hb d_Th_propertiesWithout_6 rfl (lv_at hl 0 rfl) ?_
  refine lv_aload_n hx hb d_Th_propertiesWithout_7 rfl (lv_at hl 1 rfl) ?_
  refine va_get (D := D) (ci := 6) (v := .ref pa) (C := R_Lk) (T := F_Lk) (N := 4) hx hb hts i_Lk hown hK (hv_one hP h0) 0 rfl rfl 0 (by decide) (hts _ k_Th_7) (fun _ h9 => h9) rfl d_Th_propertiesWithout_8 ?_
  refine va_alen (v := nI ps.length) hx hb hK (hv_one hP hp) 0 4 rfl rfl rfl d_Th_propertiesWithout_11 ?_
  refine gk_icmp_lt (x := i) (y := ps.length) (tgt := 20) hx hb d_Th_propertiesWithout_12 (by decide) (by omega) (by omega) (fun c12 => ?_) (fun c12 => ?_)
  · refine lv_aload_n hx hb d_Th_propertiesWithout_20 rfl (lv_at hl 1 rfl) ?_
    refine va_get (D := D) (ci := 6) (v := .ref pa) (C := R_Lk) (T := F_Lk) (N := 4) hx hb hts i_Lk hown hK (hv_one hP h0) 0 rfl rfl 0 (by decide) (hts _ k_Th_7) (fun _ h9 => h9) rfl d_Th_propertiesWithout_21 ?_
    refine va_alen (v := nI ps.length) hx hb hK (hv_one hP hp) 0 4 rfl rfl rfl d_Th_propertiesWithout_24 ?_
    refine lv_iconst (v := 1) hx hb d_Th_propertiesWithout_25 (by decide) ?_
    refine gk_isub (x := ps.length) (y := 1) hx hb d_Th_propertiesWithout_26 (by omega) ?_
    refine hv_newq hx hb hown (hts _ k_Th_18) (hv_over C hZ ko_Pr) hK hP hS hZ.2.1 4 rfl (N' := ps.length - 1) (nI_pos (by omega)) (nI_clamp (by omega)) (by omega) (Nat.le_of_ble_eq_true rfl) (by show _ + _ ≤ 6; omega) d_Th_propertiesWithout_27 (fun q3 H hq4 hP hS => ?_)
    obtain ⟨w5, ew5⟩ : ∃ z9 : hv_W, z9 = va_up w q3 (some (.inl (ca 4, ps.length - 1, .inr (.inr (.inr (.inr (fun _ => none))))))) := ⟨_, rfl⟩
    have hP : hv_P D classes s0.heap.size w5 H := by rw [ew5]; exact hP
    have h6 : w5 a = some (.inr (6, [.ref pa, .int sa, .int ea, .int ty])) := by rw [ew5]; exact hv_up_f hq4 h0
    have h7 : w5 pa = some (.inl (ca 4, ps.length, .inr (.inr (.inr (.inr pf))))) := by rw [ew5]; exact hv_up_f hq4 hp
    have h8 : w5 q3 = some (.inl (ca 4, ps.length - 1, .inr (.inr (.inr (.inr (fun _ => none)))))) := by rw [ew5]; exact hv_up_s
    refine W.widen (k := 1) (n := 6) (by omega) (by omega) ?_
    show W _ _ _ _ _ _ _ _ _ _ _ _ _ _ _ (F0 m 30 ls [.ref q3])
    have hg0 : g_grow w w5 := by rw [ew5]; exact g_grow.new hq4
    refine lv_astore_n (lv' := [(3, .ref q3), (2, .int (nI i)), (0, .ref a), (1, .int x)]) hx hb d_Th_propertiesWithout_30 rfl hl (by decide) rfl (fun ls hl => ?_)
    refine lv_iconst (v := 0) hx hb d_Th_propertiesWithout_31 (by decide) ?_
    refine lv_istore (lv' := [(4, .int 0), (3, .ref q3), (2, .int (nI i)), (0, .ref a), (1, .int x)]) hx hb d_Th_propertiesWithout_32 hl (by decide) rfl (fun ls hl => ?_)
    have lp : ∀ (n9 : Nat) (k : Nat) (g : Nat → Option Nat) (z : hv_W), (ps.length - 1) - k < n9 → (k ≤ (ps.length - 1)) → (z q3 = some (.inl (ca 4, ps.length - 1, .inr (.inr (.inr (.inr g)))))) → (g_grow w z) → (∀ j, j < k → g j = (fun j => pf (if j < i then j else j + 1)) j) → ∀ (H : Heap) (locs : List Loc) (ls : Array Slot), hv_P D classes s0.heap.size z H → va_S (hv_A s0.heap.size) s.heap H locs → lv_has ls 5 [(0, .ref a), (1, .int x), (2, .int (nI i)), (3, .ref q3), (4, .int (nI k))] → W p l e rm_Th_propertiesWithoutL s m ([.ref a, .int x] : List Value).toArray below meth c H locs 1 6 Q (F0 m 34 ls []) := by
      intro n9
      induction n9 with
      | zero =>
        intro k g z hn9
        exact absurd hn9 (Nat.not_lt_zero _)
      | succ n9 ih =>
        intro k g z hn9 hi9 hz hg hj H locs ls hP hS hl
        refine lv_iload hx hb d_Th_propertiesWithout_34 (lv_at hl 4 rfl) ?_
        refine lv_aload_n hx hb d_Th_propertiesWithout_36 rfl (lv_at hl 3 rfl) ?_
        refine va_alen (v := nI (ps.length - 1)) hx hb hK (hv_one hP hz) 0 4 rfl rfl rfl d_Th_propertiesWithout_37 ?_
        refine gk_icmp_ge (x := k) (y := ps.length - 1) (tgt := 71) hx hb d_Th_propertiesWithout_38 (by decide) (by omega) (by omega) (fun c38 => ?_) (fun c38 => ?_)
        · refine lv_aload_n hx hb d_Th_propertiesWithout_71 rfl (lv_at hl 3 rfl) ?_
          exact hv_aret (v := some q3) hQ hx hb hr (Or.inr ⟨_, rfl⟩) hZ hS hP hlocks d_Th_propertiesWithout_72 (⟨q3, rfl, hq4, by rw [g_drop, ← hip]; exact g_props_without (fun hm => hMu _ hm hq4) hil hz (fun j hj9 => by obtain ⟨q9, p9, e1, e2, e3⟩ := hpe j hj9; exact ⟨q9, p9, e1, e2, e3.k hg.keep⟩) (fun j hj9 => hj j (by omega)), hg⟩)
        · refine lv_aload_n hx hb d_Th_propertiesWithout_41 rfl (lv_at hl 3 rfl) ?_
          refine lv_iload hx hb d_Th_propertiesWithout_42 (lv_at hl 4 rfl) ?_
          refine lv_aload_n hx hb d_Th_propertiesWithout_44 rfl (lv_at hl 0 rfl) ?_
          refine va_get (D := D) (ci := 6) (v := .ref pa) (C := R_Lk) (T := F_Lk) (N := 4) hx hb hts i_Lk hown hK (hv_one hP (hg _ _ h0)) 0 rfl rfl 0 (by decide) (hts _ k_Th_7) (fun _ h9 => h9) rfl d_Th_propertiesWithout_45 ?_
          refine lv_iload hx hb d_Th_propertiesWithout_48 (lv_at hl 4 rfl) ?_
          refine lv_iload_n hx hb d_Th_propertiesWithout_50 rfl (lv_at hl 2 rfl) ?_
          refine gk_icmp_ge (x := k) (y := i) (tgt := 59) hx hb d_Th_propertiesWithout_51 (by decide) (by omega) (by omega) (fun c51 => ?_) (fun c51 => ?_)
          · refine lv_iload hx hb d_Th_propertiesWithout_59 (lv_at hl 4 rfl) ?_
            refine lv_iconst (v := 1) hx hb d_Th_propertiesWithout_61 (by decide) ?_
            refine gk_iadd (x := k) (y := 1) hx hb d_Th_propertiesWithout_62 ?_
            refine va_aldq hx hb hK (hv_one hP (hg _ _ hp)) 0 4 rfl rfl (vp_in_nI (n := k + 1) (by omega) (by omega)) d_Th_propertiesWithout_63 ?_
            rw [nI_clamp (n := k + 1) (by omega)]
            obtain ⟨qe, pe, hq1, hp1, hqe⟩ := hpe (k + 1) (by omega)
            rw [hq1]
            have hqc := hqe.2.choose_spec.1
            show W _ _ _ _ _ _ _ _ _ _ _ _ _ _ _ (F0 m 64 ls [.ref qe, .int (nI k), .ref q3])
            refine hv_astq hx hb hK hP hS 4 4 hz rfl (hg _ _ hqc) rfl (vp_in_nI (n := k) (by omega) (by omega)) d_Th_propertiesWithout_64 (fun H locs hP hS => ?_)
            rw [nI_clamp (n := k) (by omega)] at hP
            obtain ⟨w9, ew9⟩ : ∃ z9 : hv_W, z9 = va_up z q3 (some (.inl (ca 4, ps.length - 1, .inr (.inr (.inr (.inr (va_up g k (some qe)))))))) := ⟨_, rfl⟩
            have hP : hv_P D classes s0.heap.size w9 H := by rw [ew9]; exact hP
            have h10 : w9 a = some (.inr (6, [.ref pa, .int sa, .int ea, .int ty])) := by rw [ew9]; exact hv_up_k (hg _ _ h0) (hv_ne_f hq4 h0)
            have h11 : w9 pa = some (.inl (ca 4, ps.length, .inr (.inr (.inr (.inr pf))))) := by rw [ew9]; exact hv_up_k (hg _ _ hp) (hv_ne_f hq4 hp)
            have h12 : w9 qe = some (.inr (4, [.int pe.1, .int pe.2.1, .long pe.2.2.1, .ref hqe.2.choose])) := by rw [ew9]; exact hv_up_k (hg _ _ hqc) (hv_ne_f hq4 hqc)
            have h13 : w9 q3 = some (.inl (ca 4, ps.length - 1, .inr (.inr (.inr (.inr (va_up g k (some qe))))))) := by rw [ew9]; exact hv_up_s
            refine lv_iinc (v := (nI (k + 1))) (lv' := [(4, .int ((nI (k + 1)))), (0, .ref a), (1, .int x), (2, .int (nI i)), (3, .ref q3)]) hx hb d_Th_propertiesWithout_65 hl (k := 4) rfl (nI_add k 1) (by decide) rfl (fun ls hl => ?_)
            refine lv_goto (tgt := 34) hx hb d_Th_propertiesWithout_68 (by decide) ?_
            exact ih (k + 1) (va_up g k (some qe)) w9 (by omega) (by omega) h13 (g_grow.upd hq4 hg ⟨h13, fun b hb => by rw [ew9, hv_up_n hb]⟩) (gk_fill (f := fun j => pf (if j < i then j else j + 1)) hj (by show some qe = pf (if k < i then k else k + 1); rw [if_neg (by omega), hq1])) _ _ _ hP hS (lv_sub hl [1, 2, 3, 4, 0] rfl)
          · refine lv_iload hx hb d_Th_propertiesWithout_54 (lv_at hl 4 rfl) ?_
            refine lv_goto (tgt := 63) hx hb d_Th_propertiesWithout_56 (by decide) ?_
            refine va_aldq hx hb hK (hv_one hP (hg _ _ hp)) 0 4 rfl rfl (vp_in_nI (n := k) (by omega) (by omega)) d_Th_propertiesWithout_63 ?_
            rw [nI_clamp (n := k) (by omega)]
            obtain ⟨qe, pe, hq1, hp1, hqe⟩ := hpe (k) (by omega)
            rw [hq1]
            have hqc := hqe.2.choose_spec.1
            show W _ _ _ _ _ _ _ _ _ _ _ _ _ _ _ (F0 m 64 ls [.ref qe, .int (nI k), .ref q3])
            refine hv_astq hx hb hK hP hS 4 4 hz rfl (hg _ _ hqc) rfl (vp_in_nI (n := k) (by omega) (by omega)) d_Th_propertiesWithout_64 (fun H locs hP hS => ?_)
            rw [nI_clamp (n := k) (by omega)] at hP
            obtain ⟨w14, ew14⟩ : ∃ z9 : hv_W, z9 = va_up z q3 (some (.inl (ca 4, ps.length - 1, .inr (.inr (.inr (.inr (va_up g k (some qe)))))))) := ⟨_, rfl⟩
            have hP : hv_P D classes s0.heap.size w14 H := by rw [ew14]; exact hP
            have h15 : w14 a = some (.inr (6, [.ref pa, .int sa, .int ea, .int ty])) := by rw [ew14]; exact hv_up_k (hg _ _ h0) (hv_ne_f hq4 h0)
            have h16 : w14 pa = some (.inl (ca 4, ps.length, .inr (.inr (.inr (.inr pf))))) := by rw [ew14]; exact hv_up_k (hg _ _ hp) (hv_ne_f hq4 hp)
            have h17 : w14 qe = some (.inr (4, [.int pe.1, .int pe.2.1, .long pe.2.2.1, .ref hqe.2.choose])) := by rw [ew14]; exact hv_up_k (hg _ _ hqc) (hv_ne_f hq4 hqc)
            have h18 : w14 q3 = some (.inl (ca 4, ps.length - 1, .inr (.inr (.inr (.inr (va_up g k (some qe))))))) := by rw [ew14]; exact hv_up_s
            refine lv_iinc (v := (nI (k + 1))) (lv' := [(4, .int ((nI (k + 1)))), (0, .ref a), (1, .int x), (2, .int (nI i)), (3, .ref q3)]) hx hb d_Th_propertiesWithout_65 hl (k := 4) rfl (nI_add k 1) (by decide) rfl (fun ls hl => ?_)
            refine lv_goto (tgt := 34) hx hb d_Th_propertiesWithout_68 (by decide) ?_
            exact ih (k + 1) (va_up g k (some qe)) w14 (by omega) (by omega) h18 (g_grow.upd hq4 hg ⟨h18, fun b hb => by rw [ew14, hv_up_n hb]⟩) (gk_fill (f := fun j => pf (if j < i then j else j + 1)) hj (by show some qe = pf (if k < i then k else k + 1); rw [if_pos c51, hq1])) _ _ _ hP hS (lv_sub hl [1, 2, 3, 4, 0] rfl)
    exact lp _ 0 (fun _ => none) w5 (Nat.lt_succ_self _) (Nat.zero_le _) h8 hg0 (fun j q => absurd q (Nat.not_lt_zero _)) _ _ _ hP hS (lv_sub hl [3, 4, 2, 1, 0] rfl)
  · exact absurd hil (Nat.not_lt.mpr c12)

abbrev rm_Pr_isSameValue : Room := { frames := 0, cells := 0, slots := 0, locals := 0 }
set_option maxHeartbeats 4000000 in
set_option maxRecDepth 100000 in
/-- isSameValue -/
theorem c_Pr_isSameValue {l : Launch} {s0 : State} {D : va_G} {ca : Nat → ClassId} (C : hv_C l s0 D (hv_tys ca)) {w : hv_W} {a b : Nat} {Mu : Nat → Prop} {pp rr : gP} (hp : g_prop ca Mu w a pp) (hrr : g_prop ca Mu w b rr) (hn1 : pp.2.2.2.length ≤ 24) (hn2 : rr.2.2.2.length ≤ 24)  :
    hv_Met l y_Pr_isSameValue [.code y_Pr_isSameValue b_Pr_isSameValue 3 (some .boolean)] rm_Pr_isSameValue (hv_Pc s0 D w [.ref a, .ref b]) (hv_Q s0 D (fun v w' => v = some (.int (if pp.2 = rr.2 then 1 else 0)) ∧ w' = w) (fun _ _ => False)) 0 0 (hv_A s0.heap.size) := by
  refine hv_enter C _ (by decide) (Nat.le_of_ble_eq_true rfl) ?_
  intro p e s m below meth c ls Q hQ hx hb hr hml hown hts hK hZ hlocks hname hout htr hP hl
  have hown : s.vm.findClass R_Pr = some m.cls := hown
  have hS : va_S (hv_A s0.heap.size) s.heap s.heap [] := va_S.rf
  have hl : lv_has ls 3 [(0, .ref a), (1, .ref b)] := hl
  obtain ⟨hm1, t, h1, hm2, f, h2, hf⟩ := id hp
  obtain ⟨hm3, u, h3, hm4, f9, h4, hf9⟩ := id hrr
  refine lv_aload_n hx hb d_Pr_isSameValue_0 rfl (lv_at hl 0 rfl) ?_
  refine va_get (D := D) (ci := 4) (v := .int pp.2.1) (C := R_Pr) (T := F_Pr) (N := 4) hx hb hts i_Pr hown hK (hv_one hP h1) 0 rfl rfl 1 (by decide) (hts _ k_Pr_13) (fun _ h9 => h9) rfl d_Pr_isSameValue_1 ?_
  refine lv_aload_n hx hb d_Pr_isSameValue_4 rfl (lv_at hl 1 rfl) ?_
  refine va_get (D := D) (ci := 4) (v := .int rr.2.1) (C := R_Pr) (T := F_Pr) (N := 4) hx hb hts i_Pr hown hK (hv_one hP h3) 0 rfl rfl 1 (by decide) (hts _ k_Pr_13) (fun _ h9 => h9) rfl d_Pr_isSameValue_5 ?_
  refine lv_icmp_ne (tgt := 36) hx hb d_Pr_isSameValue_8 (by decide) (fun c8 => ?_) (fun c8 => ?_)
  · refine lv_iconst (v := 0) hx hb d_Pr_isSameValue_36 (by decide) ?_
    exact hv_zret (v := 0) hQ hx hb hr (by decide) hZ hS hP hlocks d_Pr_isSameValue_37 (⟨by rw [if_neg (fun q => c8 (by rw [q]))], rfl⟩)
  · refine lv_aload_n hx hb d_Pr_isSameValue_11 rfl (lv_at hl 0 rfl) ?_
    refine va_get (D := D) (ci := 4) (v := .long pp.2.2.1) (C := R_Pr) (T := F_Pr) (N := 4) hx hb hts i_Pr hown hK (hv_one hP h1) 0 rfl rfl 2 (by decide) (hts _ k_Pr_16) (fun _ h9 => h9) rfl d_Pr_isSameValue_12 ?_
    refine lv_aload_n hx hb d_Pr_isSameValue_15 rfl (lv_at hl 1 rfl) ?_
    refine va_get (D := D) (ci := 4) (v := .long rr.2.2.1) (C := R_Pr) (T := F_Pr) (N := 4) hx hb hts i_Pr hown hK (hv_one hP h3) 0 rfl rfl 2 (by decide) (hts _ k_Pr_16) (fun _ h9 => h9) rfl d_Pr_isSameValue_16 ?_
    refine W.lcmp hx hb d_Pr_isSameValue_19 ?_
    refine lv_if_ne (tgt := 36) hx hb d_Pr_isSameValue_20 (by decide) (fun c20 => ?_) (fun c20 => ?_)
    · refine lv_iconst (v := 0) hx hb d_Pr_isSameValue_36 (by decide) ?_
      exact hv_zret (v := 0) hQ hx hb hr (by decide) hZ hS hP hlocks d_Pr_isSameValue_37 (⟨by rw [if_neg (fun q => c20 (by rw [q]; exact g_lcmp_refl _))], rfl⟩)
    · refine lv_aload_n hx hb d_Pr_isSameValue_23 rfl (lv_at hl 0 rfl) ?_
      refine va_get (D := D) (ci := 4) (v := .ref t) (C := R_Pr) (T := F_Pr) (N := 4) hx hb hts i_Pr hown hK (hv_one hP h1) 0 rfl rfl 3 (by decide) (hts _ k_Pr_20) (fun _ h9 => h9) rfl d_Pr_isSameValue_24 ?_
      refine va_alen (v := nI pp.2.2.2.length) hx hb hK (hv_one hP h2) 0 1 rfl rfl rfl d_Pr_isSameValue_27 ?_
      refine lv_aload_n hx hb d_Pr_isSameValue_28 rfl (lv_at hl 1 rfl) ?_
      refine va_get (D := D) (ci := 4) (v := .ref u) (C := R_Pr) (T := F_Pr) (N := 4) hx hb hts i_Pr hown hK (hv_one hP h3) 0 rfl rfl 3 (by decide) (hts _ k_Pr_20) (fun _ h9 => h9) rfl d_Pr_isSameValue_29 ?_
      refine va_alen (v := nI rr.2.2.2.length) hx hb hK (hv_one hP h4) 0 1 rfl rfl rfl d_Pr_isSameValue_32 ?_
      refine gk_icmp_eq (x := pp.2.2.2.length) (y := rr.2.2.2.length) (tgt := 38) hx hb d_Pr_isSameValue_33 (by decide) (by omega) (by omega) (fun c33 => ?_) (fun c33 => ?_)
      · refine lv_iconst (v := 0) hx hb d_Pr_isSameValue_38 (by decide) ?_
        refine lv_istore_n (lv' := [(2, .int 0), (0, .ref a), (1, .ref b)]) hx hb d_Pr_isSameValue_39 rfl hl (by decide) rfl (fun ls hl => ?_)
        have lp : ∀ (n9 : Nat) (k : Nat), pp.2.2.2.length - k < n9 → (k ≤ pp.2.2.2.length) → (∀ j, j < k → f j = f9 j) → ∀ (H : Heap) (locs : List Loc) (ls : Array Slot), hv_P D classes s0.heap.size w H → va_S (hv_A s0.heap.size) s.heap H locs → lv_has ls 3 [(0, .ref a), (1, .ref b), (2, .int (nI k))] → W p l e rm_Pr_isSameValue s m ([.ref a, .ref b] : List Value).toArray below meth c H locs 0 0 Q (F0 m 40 ls []) := by
          intro n9
          induction n9 with
          | zero =>
            intro k hn9
            exact absurd hn9 (Nat.not_lt_zero _)
          | succ n9 ih =>
            intro k hn9 hk hj H locs ls hP hS hl
            refine lv_iload_n hx hb d_Pr_isSameValue_40 rfl (lv_at hl 2 rfl) ?_
            refine lv_aload_n hx hb d_Pr_isSameValue_41 rfl (lv_at hl 0 rfl) ?_
            refine va_get (D := D) (ci := 4) (v := .ref t) (C := R_Pr) (T := F_Pr) (N := 4) hx hb hts i_Pr hown hK (hv_one hP h1) 0 rfl rfl 3 (by decide) (hts _ k_Pr_20) (fun _ h9 => h9) rfl d_Pr_isSameValue_42 ?_
            refine va_alen (v := nI pp.2.2.2.length) hx hb hK (hv_one hP h2) 0 1 rfl rfl rfl d_Pr_isSameValue_45 ?_
            refine gk_icmp_ge (x := k) (y := pp.2.2.2.length) (tgt := 72) hx hb d_Pr_isSameValue_46 (by decide) (by omega) (by omega) (fun c46 => ?_) (fun c46 => ?_)
            · refine lv_iconst (v := 1) hx hb d_Pr_isSameValue_72 (by decide) ?_
              exact hv_zret (v := 1) hQ hx hb hr (by decide) hZ hS hP hlocks d_Pr_isSameValue_73 (⟨by rw [if_pos (g_same c8 (g_lcmp_eq c20) c33 hf hf9 (fun j hj9 => hj j (by omega)))], rfl⟩)
            · refine lv_aload_n hx hb d_Pr_isSameValue_49 rfl (lv_at hl 0 rfl) ?_
              refine va_get (D := D) (ci := 4) (v := .ref t) (C := R_Pr) (T := F_Pr) (N := 4) hx hb hts i_Pr hown hK (hv_one hP h1) 0 rfl rfl 3 (by decide) (hts _ k_Pr_20) (fun _ h9 => h9) rfl d_Pr_isSameValue_50 ?_
              refine lv_iload_n hx hb d_Pr_isSameValue_53 rfl (lv_at hl 2 rfl) ?_
              refine va_bald hx hb hK (hv_one hP h2) 0 1 rfl rfl (vp_in_nI (n := k) (by omega) (by omega)) d_Pr_isSameValue_54 ?_
              rw [nI_clamp (n := k) (by omega)]
              refine lv_aload_n hx hb d_Pr_isSameValue_55 rfl (lv_at hl 1 rfl) ?_
              refine va_get (D := D) (ci := 4) (v := .ref u) (C := R_Pr) (T := F_Pr) (N := 4) hx hb hts i_Pr hown hK (hv_one hP h3) 0 rfl rfl 3 (by decide) (hts _ k_Pr_20) (fun _ h9 => h9) rfl d_Pr_isSameValue_56 ?_
              refine lv_iload_n hx hb d_Pr_isSameValue_59 rfl (lv_at hl 2 rfl) ?_
              refine va_bald hx hb hK (hv_one hP h4) 0 1 rfl rfl (vp_in_nI (n := k) (by omega) (by omega)) d_Pr_isSameValue_60 ?_
              rw [nI_clamp (n := k) (by omega)]
              refine lv_icmp_eq (tgt := 66) hx hb d_Pr_isSameValue_61 (by decide) (fun c61 => ?_) (fun c61 => ?_)
              · refine lv_iinc (v := (nI (k + 1))) (lv' := [(2, .int ((nI (k + 1)))), (0, .ref a), (1, .ref b)]) hx hb d_Pr_isSameValue_66 hl (k := 2) rfl (nI_add k 1) (by decide) rfl (fun ls hl => ?_)
                refine lv_goto (tgt := 40) hx hb d_Pr_isSameValue_69 (by decide) ?_
                exact ih (k + 1) (by omega) (by omega) (lt_s hj c61) _ _ _ hP hS (lv_sub hl [1, 2, 0] rfl)
              · refine lv_iconst (v := 0) hx hb d_Pr_isSameValue_64 (by decide) ?_
                exact hv_zret (v := 0) hQ hx hb hr (by decide) hZ hS hP hlocks d_Pr_isSameValue_65 (⟨by rw [if_neg (fun q => c61 (by rw [hf k (by omega), hf9 k (by omega), q]))], rfl⟩)
        exact lp _ 0 (Nat.lt_succ_self _) (Nat.zero_le _) (fun j q => absurd q (Nat.not_lt_zero _)) _ _ _ hP hS (lv_sub hl [1, 2, 0] rfl)
      · refine lv_iconst (v := 0) hx hb d_Pr_isSameValue_36 (by decide) ?_
        exact hv_zret (v := 0) hQ hx hb hr (by decide) hZ hS hP hlocks d_Pr_isSameValue_37 (⟨by rw [if_neg (fun q => c33 (by rw [q]))], rfl⟩)

