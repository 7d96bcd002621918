abbrev rm_Tp_init : Room := { frames := 1, cells := 1, slots := 24, locals := 12 }
set_option maxHeartbeats 4000000 in
set_option maxRecDepth 100000 in
theorem c_Tp_init {l : Launch} {s0 : State} {D : va_G} {ca : Nat → ClassId} (C : hv_C l s0 D (hv_tys ca)) {w : hv_W} {a : Nat} (h0 : w a = some (.inr (3, [.null, .int 0])))  :
    hv_Met l y_Tp_init [.code y_Tp_init b_Tp_init 1 none] rm_Tp_init (hv_Pc s0 D w [.ref a]) (hv_Q s0 D (fun v w' => v = none ∧ ∃ tb, w tb = none ∧ w' a = some (.inr (3, [.ref tb, .int 0])) ∧ w' tb = some (.inl (ca 1, 24, .inl (fun _ => 0))) ∧ ∀ b, b ≠ a → b ≠ tb → w' b = w b) (fun _ _ => False)) 1 24 (hv_A s0.heap.size) := by
  refine hv_enter C _ (by decide) (Nat.le_of_ble_eq_true rfl) ?_
  intro p e s m below meth c ls Q hQ hx hb hr hml hown hts hK hZ hlocks hname hout htr hP hl
  have hown : s.vm.findClass R_Tp = some m.cls := hown
  have hS : va_S (hv_A s0.heap.size) s.heap s.heap [] := va_S.rf
  have hl : lv_has ls 1 [(0, .ref a)] := hl
  refine lv_aload_n hx hb d_Tp_init_0 rfl (lv_at hl 0 rfl) ?_
  refine W.objInit hx hb hown (hts _ k_Tp_3) (hts _ ki_objInit) (hts _ kc_objInit) rfl (by rw [hml]; exact hl.1) rfl d_Tp_init_1 (Nat.le_of_ble_eq_true rfl) (Nat.le_of_ble_eq_true rfl) ?_
  show W _ _ _ _ _ _ _ _ _ _ _ _ _ _ _ (F0 m 4 ls [])
  refine lv_aload_n hx hb d_Tp_init_4 rfl (lv_at hl 0 rfl) ?_
  refine lv_bipush (v := 24) hx hb d_Tp_init_5 (by decide) ?_
  refine hv_newa (a0 := (24, .inl (fun _ => 0))) hx hb (show (Cond.arrayClass (newarray.typeOf .byte)).before _ s = true from hts _ ka_byte) rfl hK hP hS hZ.2.1 1 rfl (N' := 24) (fun _ => rfl) (nI_pos (n := 24) (by omega)) (nI_clamp (n := 24) (by omega)) (gk_bytes (Nat.le_trans (Nat.mul_le_mul_left _ (by decide : _ ≤ 8)) (by omega))) (Nat.le_of_ble_eq_true rfl) (by show _ + _ ≤ 24; omega) d_Tp_init_7 (fun q1 H hq2 hP hS => ?_)
  obtain ⟨w3, ew3⟩ : ∃ z9 : hv_W, z9 = va_up w q1 (some (.inl (ca 1, 24, .inl (fun _ => 0)))) := ⟨_, rfl⟩
  have hP : hv_P D classes s0.heap.size w3 H := by rw [ew3]; exact hP
  have h4 : w3 a = some (.inr (3, [.null, .int 0])) := by rw [ew3]; exact hv_up_f hq2 h0
  have h5 : w3 q1 = some (.inl (ca 1, 24, .inl (fun _ => 0))) := by rw [ew3]; exact hv_up_s
  refine W.widen (k := 1) (n := 24) (by omega) (by omega) ?_
  show W _ _ _ _ _ _ _ _ _ _ _ _ _ _ _ (F0 m 9 ls [.ref q1, .ref a])
  refine hv_putF (D := D) (ci := 3) (v := .ref q1) (ty := .array .byte) (C := R_Tp) (T := F_Tp) (N := 2) hx hb hts i_Tp t_Tp t_Tp_ok n_Tp hown hK hP hS h4 rfl 0 (by decide) (hts _ k_Tp_9) (fun _ h9 => h9) rfl hname rfl (by decide +kernel) rfl rfl (Nat.le_of_ble_eq_true rfl) d_Tp_init_9 (fun H locs hP hS => ?_)
  obtain ⟨w6, ew6⟩ : ∃ z9 : hv_W, z9 = va_up w3 a (some (.inr (3, [.ref q1, .int 0]))) := ⟨_, rfl⟩
  have hP : hv_P D classes s0.heap.size w6 H := by rw [ew6]; exact hP
  have h7 : w6 q1 = some (.inl (ca 1, 24, .inl (fun _ => 0))) := by rw [ew6]; exact hv_up_k h5 (hv_ne h5 h4 (show (100 : Nat) ≠ 3 by decide))
  have h8 : w6 a = some (.inr (3, [.ref q1, .int 0])) := by rw [ew6]; exact hv_up_s
  exact hv_vret hQ hx hb hr hZ hS hP hlocks d_Tp_init_12 (⟨rfl, q1, hq2, h8, h7, fun b hb1 hb2 => by rw [ew6, hv_up_n hb1, ew3, hv_up_n hb2]⟩)

abbrev rm_Tp_byteOf : Room := { frames := 0, cells := 0, slots := 0, locals := 0 }
set_option maxHeartbeats 4000000 in
set_option maxRecDepth 100000 in
theorem c_Tp_byteOf {l : Launch} {s0 : State} {D : va_G} {ca : Nat → ClassId} (C : hv_C l s0 D (hv_tys ca)) {w : hv_W} (x : Int64) (i : Nat)  :
    hv_Met l y_Tp_byteOf [.code y_Tp_byteOf b_Tp_byteOf 3 (some .int)] rm_Tp_byteOf (hv_Pc s0 D w [.long x, .int (nI i)]) (hv_Q s0 D (fun v w' => v = some (.int (t_byte x i)) ∧ w' = w) (fun _ _ => False)) 0 0 (hv_A s0.heap.size) := by
  refine hv_enter C _ (by decide) (Nat.le_of_ble_eq_true rfl) ?_
  intro p e s m below meth c ls Q hQ hx hb hr hml hown hts hK hZ hlocks hname hout htr hP hl
  have hown : s.vm.findClass R_Tp = some m.cls := hown
  have hS : va_S (hv_A s0.heap.size) s.heap s.heap [] := va_S.rf
  have hl : lv_has ls 3 [(0, .long x), (2, .int (nI i))] := hl
  refine lv_lload_n hx hb d_Tp_byteOf_0 rfl (lv_at hl 0 rfl) ?_
  refine lv_bipush (v := 8) hx hb d_Tp_byteOf_1 (by decide) ?_
  refine lv_iload_n hx hb d_Tp_byteOf_3 rfl (lv_at hl 1 rfl) ?_
  refine gk_imul (x := 8) (y := i) hx hb d_Tp_byteOf_4 ?_
  refine lv_lushr (v := (x.toUInt64 >>> ((nI (8 * i)).toInt64.toUInt64 &&& Int64.toUInt64 63)).toInt64) hx hb d_Tp_byteOf_5 rfl ?_
  refine lv_l2i (v := ((x.toUInt64 >>> ((nI (8 * i)).toInt64.toUInt64 &&& Int64.toUInt64 63)).toInt64).toInt32) hx hb d_Tp_byteOf_6 rfl ?_
  refine lv_sipush (v := 255) hx hb d_Tp_byteOf_7 (by decide) ?_
  refine lv_iand hx hb d_Tp_byteOf_10 ?_
  exact hv_iret (v := (((x.toUInt64 >>> ((nI (8 * i)).toInt64.toUInt64 &&& Int64.toUInt64 63)).toInt64).toInt32) &&& 255) hQ hx hb hr hZ hS hP hlocks d_Tp_byteOf_11 (⟨rfl, rfl⟩)

abbrev rm_Tp_append : Room := { frames := 1, cells := 0, slots := 0, locals := 22 }
set_option maxHeartbeats 4000000 in
set_option maxRecDepth 100000 in
theorem c_Tp_append {l : Launch} {s0 : State} {D : va_G} {ca : Nat → ClassId} (C : hv_C l s0 D (hv_tys ca)) {w : hv_W} {a tb : Nat} {xs : List Int32} {f : Nat → Int32} (x : Int64) (n : Int32) (h0 : w a = some (.inr (3, [.ref tb, .int (nI xs.length)]))) (h1 : w tb = some (.inl (ca 1, 24, .inl f))) (hf : ∀ i, i < xs.length → f i = xs.getD i 0) (hlen : xs.length ≤ 24)  :
    hv_Met l y_Tp_append [.code y_Tp_append b_Tp_append 5 (some .boolean)] rm_Tp_append (hv_Pc s0 D w [.ref a, .long x, .int n]) (hv_Q s0 D (fun v w' => (v = some (.int 0) ∧ w' = w ∧ ¬ t_good x n xs.length) ∨ (∃ N f', v = some (.int 1) ∧ n = nI N ∧ N ≤ 8 ∧ t_good x n xs.length ∧ w' a = some (.inr (3, [.ref tb, .int (nI (xs ++ t_acc x N N).length)])) ∧ w' tb = some (.inl (ca 1, 24, .inl f')) ∧ (∀ i, i < (xs ++ t_acc x N N).length → f' i = (xs ++ t_acc x N N).getD i 0) ∧ ∀ b, b ≠ a → b ≠ tb → w' b = w b)) (fun _ _ => False)) 0 0 (hv_A s0.heap.size) := by
  refine hv_enter C _ (by decide) (Nat.le_of_ble_eq_true rfl) ?_
  intro p e s m below meth c ls Q hQ hx hb hr hml hown hts hK hZ hlocks hname hout htr hP hl
  have hown : s.vm.findClass R_Tp = some m.cls := hown
  have hS : va_S (hv_A s0.heap.size) s.heap s.heap [] := va_S.rf
  have hl : lv_has ls 5 [(0, .ref a), (1, .long x), (3, .int n)] := hl
  refine lv_iload_n hx hb d_Tp_append_0 rfl (lv_at hl 2 rfl) ?_
  refine lv_iconst (v := 1) hx hb d_Tp_append_1 (by decide) ?_
  refine lv_icmp_lt (tgt := 25) hx hb d_Tp_append_2 (by decide) (fun c2 => ?_) (fun c2 => ?_)
  · refine lv_iconst (v := 0) hx hb d_Tp_append_25 (by decide) ?_
    exact hv_zret (v := 0) hQ hx hb hr (by decide) hZ hS hP hlocks d_Tp_append_26 (Or.inl ⟨rfl, rfl, t_bad1 c2⟩)
  · refine lv_iload_n hx hb d_Tp_append_5 rfl (lv_at hl 2 rfl) ?_
    refine lv_bipush (v := 8) hx hb d_Tp_append_6 (by decide) ?_
    refine lv_icmp_gt (tgt := 25) hx hb d_Tp_append_8 (by decide) (fun c8 => ?_) (fun c8 => ?_)
    · refine lv_iconst (v := 0) hx hb d_Tp_append_25 (by decide) ?_
      exact hv_zret (v := 0) hQ hx hb hr (by decide) hZ hS hP hlocks d_Tp_append_26 (Or.inl ⟨rfl, rfl, t_bad2 c8⟩)
    · obtain ⟨N, hN1, hN8, rfl⟩ := t_of c2 c8
      refine lv_aload_n hx hb d_Tp_append_11 rfl (lv_at hl 0 rfl) ?_
      refine va_get (D := D) (ci := 3) (v := .int (nI xs.length)) (C := R_Tp) (T := F_Tp) (N := 2) hx hb hts i_Tp hown hK (hv_one hP h0) 0 rfl rfl 1 (by decide) (hts _ k_Tp_15) (fun _ h9 => h9) rfl d_Tp_append_12 ?_
      refine lv_iload_n hx hb d_Tp_append_15 rfl (lv_at hl 2 rfl) ?_
      refine gk_iadd (x := xs.length) (y := N) hx hb d_Tp_append_16 ?_
      refine lv_aload_n hx hb d_Tp_append_17 rfl (lv_at hl 0 rfl) ?_
      refine va_get (D := D) (ci := 3) (v := .ref tb) (C := R_Tp) (T := F_Tp) (N := 2) hx hb hts i_Tp hown hK (hv_one hP h0) 0 rfl rfl 0 (by decide) (hts _ k_Tp_9) (fun _ h9 => h9) rfl d_Tp_append_18 ?_
      refine va_alen (v := nI 24) hx hb hK (hv_one hP h1) 0 1 rfl rfl rfl d_Tp_append_21 ?_
      refine gk_icmp_le (x := xs.length + N) (y := 24) (tgt := 27) hx hb d_Tp_append_22 (by decide) (by omega) (by omega) (fun c22 => ?_) (fun c22 => ?_)
      · refine lv_iconst (v := 0) hx hb d_Tp_append_27 (by decide) ?_
        refine lv_istore (lv' := [(4, .int 0), (0, .ref a), (1, .long x), (3, .int (nI N))]) hx hb d_Tp_append_28 hl (by decide) rfl (fun ls hl => ?_)
        have lp : ∀ (n9 : Nat) (k : Nat), N - k < n9 → (k ≤ N) → (∀ j, j < k → 32 ≤ t_byte x j ∧ t_byte x j ≤ 126) → ∀ (H : Heap) (locs : List Loc) (ls : Array Slot), hv_P D classes s0.heap.size w H → va_S (hv_A s0.heap.size) s.heap H locs → lv_has ls 5 [(0, .ref a), (1, .long x), (3, .int (nI N)), (4, .int (nI k))] → W p l e rm_Tp_append s m ([.ref a, .long x, .int (nI N)] : List Value).toArray below meth c H locs 0 0 Q (F0 m 30 ls []) := by
          intro n9
          induction n9 with
          | zero =>
            intro k hn9
            exact absurd hn9 (Nat.not_lt_zero _)
          | succ n9 ih =>
            intro k hn9 hk hj H locs ls hP hS hl
            refine lv_iload hx hb d_Tp_append_30 (lv_at hl 3 rfl) ?_
            refine lv_iload_n hx hb d_Tp_append_32 rfl (lv_at hl 2 rfl) ?_
            refine gk_icmp_ge (x := k) (y := N) (tgt := 66) hx hb d_Tp_append_33 (by decide) (by omega) (by omega) (fun c33 => ?_) (fun c33 => ?_)
            · refine lv_iload_n hx hb d_Tp_append_66 rfl (lv_at hl 2 rfl) ?_
              refine lv_iconst (v := 1) hx hb d_Tp_append_67 (by decide) ?_
              refine lv_isub hx hb d_Tp_append_68 ?_
              refine lv_istore (lv' := [(4, .int ((nI N) - 1)), (0, .ref a), (1, .long x), (3, .int (nI N))]) hx hb d_Tp_append_69 hl (by decide) rfl (fun ls hl => ?_)
              have hgood : ∀ j, j < N → 32 ≤ t_byte x j ∧ t_byte x j ≤ 126 := fun j hj9 => hj j (by omega)
              have hNN : N - 0 = N := Nat.sub_zero N
              have lp2 : ∀ (n9 : Nat) (i : Nat) (g : Nat → Int32) (z : hv_W), N - i < n9 → (i ≤ N) → (z a = some (.inr (3, [.ref tb, .int (nI (xs.length + i))]))) → (z tb = some (.inl (ca 1, 24, .inl g))) → (∀ j, j < xs.length + i → g j = (xs ++ t_acc x N i).getD j 0) → (∀ b, b ≠ a → b ≠ tb → z b = w b) → ∀ (H : Heap) (locs : List Loc) (ls : Array Slot), hv_P D classes s0.heap.size z H → va_S (hv_A s0.heap.size) s.heap H locs → lv_has ls 5 [(0, .ref a), (1, .long x), (3, .int (nI N)), (4, .int (nI (N - i) - 1))] → W p l e rm_Tp_append s m ([.ref a, .long x, .int (nI N)] : List Value).toArray below meth c H locs 0 0 Q (F0 m 71 ls []) := by
                intro n9
                induction n9 with
                | zero =>
                  intro i g z hn9
                  exact absurd hn9 (Nat.not_lt_zero _)
                | succ n9 ih =>
                  intro i g z hn9 hi hz1 hz2 hg hfr H locs ls hP hS hl
                  refine lv_iload hx hb d_Tp_append_71 (lv_at hl 3 rfl) ?_
                  refine lv_if_lt (tgt := 108) hx hb d_Tp_append_73 (by decide) (fun c73 => ?_) (fun c73 => ?_)
                  · have hiN : i = N := by have := gk_m1 (by omega) c73; omega
                    refine lv_iconst (v := 1) hx hb d_Tp_append_108 (by decide) ?_
                    exact hv_zret (v := 1) hQ hx hb hr (by decide) hZ hS hP hlocks d_Tp_append_109 (Or.inr ⟨N, g, rfl, rfl, hN8, ⟨N, rfl, hN1, hN8, c22, hgood⟩, by rw [List.length_append, t_acc_len]; rw [hiN] at hz1; exact hz1, hz2, fun j hj9 => by rw [List.length_append, t_acc_len] at hj9; have h9 := hg j (by omega); rw [hiN] at h9; exact h9, hfr⟩)
                  · have hlt : i < N := Nat.not_le.mp fun q => c73 (by rw [Nat.sub_eq_zero_of_le q]; decide)
                    have hNi : N - i - 1 = N - 1 - i := by omega
                    have e9 : nI (N - i) - 1 = nI (N - i - 1) := gk_nsub (a := N - i) (b := 1) (by omega)
                    rw [e9] at hl
                    refine lv_aload_n hx hb d_Tp_append_76 rfl (lv_at hl 0 rfl) ?_
                    refine va_get (D := D) (ci := 3) (v := .ref tb) (C := R_Tp) (T := F_Tp) (N := 2) hx hb hts i_Tp hown hK (hv_one hP hz1) 0 rfl rfl 0 (by decide) (hts _ k_Tp_9) (fun _ h9 => h9) rfl d_Tp_append_77 ?_
                    refine lv_aload_n hx hb d_Tp_append_80 rfl (lv_at hl 0 rfl) ?_
                    refine va_get (D := D) (ci := 3) (v := .int (nI (xs.length + i))) (C := R_Tp) (T := F_Tp) (N := 2) hx hb hts i_Tp hown hK (hv_one hP hz1) 0 rfl rfl 1 (by decide) (hts _ k_Tp_15) (fun _ h9 => h9) rfl d_Tp_append_81 ?_
                    refine lv_lload_n hx hb d_Tp_append_84 rfl (lv_at hl 1 rfl) ?_
                    refine lv_iload hx hb d_Tp_append_85 (lv_at hl 3 rfl) ?_
                    refine hv_call (hv_runS (As := [.long x, .int (nI (N - i - 1))]) (rest := [.int (nI (xs.length + i)), .ref tb]) (c_Tp_byteOf C x (N - i - 1)) (hv_cw C hZ kc_Tp_byteOf kn_Tp ⟨rfl, rfl, Nat.le_of_ble_eq_true rfl, Nat.le_of_ble_eq_true rfl⟩) hv_blind (hv_pre hZ hS hP) hx hml hb hown (hts _ k_Tp_19) (hts _ ki_Tp_byteOf) (hts _ kn_Tp) hy_Tp_byteOf (hv_sig (hts _ kc_Tp_byteOf)) rfl hl.1 rfl (lv_room (Nat.le_of_ble_eq_true rfl)) d_Tp_append_87 ⟨Nat.le_of_ble_eq_true rfl, Nat.le_of_ble_eq_true rfl⟩) hZ hS (fun v9 w1 H locs q2 hP hS => ?_) (fun x9 w1 H locs q2 hP hS => q2.elim)
                    obtain ⟨hv9, hw9⟩ := q2
                    subst hv9
                    rw [hw9] at hP
                    show W _ _ _ _ _ _ _ _ _ _ _ _ _ _ _ (F0 m 90 ls [.int (t_byte x (N - i - 1)), .int (nI (xs.length + i)), .ref tb])
                    refine lv_i2b (v := (t_byte x (N - i - 1)).toInt8.toInt32) hx hb d_Tp_append_90 rfl ?_
                    refine hv_bast hx hb hK hP hS 1 hz2 rfl (vp_in_nI (n := xs.length + i) (by omega) (by omega)) d_Tp_append_91 (fun H locs hP hS => ?_)
                    rw [nI_clamp (n := xs.length + i) (by omega)] at hP
                    obtain ⟨w3, ew3⟩ : ∃ z9 : hv_W, z9 = va_up z tb (some (.inl (ca 1, 24, .inl (upd g (xs.length + i) (vp_nar .byte ((t_byte x (N - i - 1)).toInt8.toInt32)))))) := ⟨_, rfl⟩
                    have hP : hv_P D classes s0.heap.size w3 H := by rw [ew3]; exact hP
                    have h4 : w3 a = some (.inr (3, [.ref tb, .int (nI (xs.length + i))])) := by rw [ew3]; exact hv_up_k hz1 (hv_ne hz1 hz2 (show (3 : Nat) ≠ 100 by decide))
                    have h5 : w3 tb = some (.inl (ca 1, 24, .inl (upd g (xs.length + i) (vp_nar .byte ((t_byte x (N - i - 1)).toInt8.toInt32))))) := by rw [ew3]; exact hv_up_s
                    refine lv_aload_n hx hb d_Tp_append_92 rfl (lv_at hl 0 rfl) ?_
                    refine lv_dup hx hb d_Tp_append_93 rfl ?_
                    refine va_get (D := D) (ci := 3) (v := .int (nI (xs.length + i))) (C := R_Tp) (T := F_Tp) (N := 2) hx hb hts i_Tp hown hK (hv_one hP h4) 0 rfl rfl 1 (by decide) (hts _ k_Tp_15) (fun _ h9 => h9) rfl d_Tp_append_94 ?_
                    refine lv_iconst (v := 1) hx hb d_Tp_append_97 (by decide) ?_
                    refine gk_iadd (x := xs.length + i) (y := 1) hx hb d_Tp_append_98 ?_
                    refine hv_put (D := D) (ci := 3) (v := .int (nI ((xs.length + i) + 1))) (ty := .int) (C := R_Tp) (T := F_Tp) (N := 2) hx hb hts i_Tp t_Tp t_Tp_ok n_Tp hown hK hP hS h4 rfl 1 (by decide) (hts _ k_Tp_15) (fun _ h9 => h9) rfl (by decide +kernel) rfl rfl (Nat.le_of_ble_eq_true rfl) d_Tp_append_99 (fun H locs hP hS => ?_)
                    obtain ⟨w6, ew6⟩ : ∃ z9 : hv_W, z9 = va_up w3 a (some (.inr (3, [.ref tb, .int (nI ((xs.length + i) + 1))]))) := ⟨_, rfl⟩
                    have hP : hv_P D classes s0.heap.size w6 H := by rw [ew6]; exact hP
                    have h7 : w6 tb = some (.inl (ca 1, 24, .inl (upd g (xs.length + i) (vp_nar .byte ((t_byte x (N - i - 1)).toInt8.toInt32))))) := by rw [ew6]; exact hv_up_k h5 (hv_ne h5 h4 (show (100 : Nat) ≠ 3 by decide))
                    have h8 : w6 a = some (.inr (3, [.ref tb, .int (nI ((xs.length + i) + 1))])) := by rw [ew6]; exact hv_up_s
                    refine lv_iinc (v := (nI (N - (i + 1)) - 1)) (lv' := [(4, .int ((nI (N - (i + 1)) - 1))), (0, .ref a), (1, .long x), (3, .int (nI N))]) hx hb d_Tp_append_102 hl (k := 3) rfl (show nI (N - i - 1) + (-1) = nI (N - (i + 1)) - 1 by rw [Int32.sub_eq_add_neg]; rfl) (by decide) rfl (fun ls hl => ?_)
                    refine lv_goto (tgt := 71) hx hb d_Tp_append_105 (by decide) ?_
                    exact ih (i + 1) (upd g (xs.length + i) (vp_nar .byte ((t_byte x (N - i - 1)).toInt8.toInt32))) w6 (by omega) (by omega) h8 h7 (by rw [t_nar (hgood _ (by omega)).1 (hgood _ (by omega)).2, t_acc_s, ← hNi]; exact g_getD_app (show xs.length + i = _ by rw [List.length_append, t_acc_len]) hg) (fun b hb1 hb2 => by rw [ew6, hv_up_n hb1, ew3, hv_up_n hb2]; exact hfr b hb1 hb2) _ _ _ hP hS (lv_sub hl [1, 2, 3, 0] rfl)
              exact lp2 _ 0 f w (Nat.lt_succ_self _) (Nat.zero_le _) h0 h1 (by intro j hj9; rw [show t_acc x N 0 = [] from rfl, List.append_nil]; exact hf j hj9) (fun _ _ _ => rfl) _ _ _ hP hS (lv_sub hl [1, 2, 3, 0] rfl)
            · refine lv_lload_n hx hb d_Tp_append_36 rfl (lv_at hl 1 rfl) ?_
              refine lv_iload hx hb d_Tp_append_37 (lv_at hl 3 rfl) ?_
              refine hv_call (hv_runS (As := [.long x, .int (nI k)]) (rest := []) (c_Tp_byteOf C x k) (hv_cw C hZ kc_Tp_byteOf kn_Tp ⟨rfl, rfl, Nat.le_of_ble_eq_true rfl, Nat.le_of_ble_eq_true rfl⟩) hv_blind (hv_pre hZ hS hP) hx hml hb hown (hts _ k_Tp_19) (hts _ ki_Tp_byteOf) (hts _ kn_Tp) hy_Tp_byteOf (hv_sig (hts _ kc_Tp_byteOf)) rfl hl.1 rfl (lv_room (Nat.le_of_ble_eq_true rfl)) d_Tp_append_39 ⟨Nat.le_of_ble_eq_true rfl, Nat.le_of_ble_eq_true rfl⟩) hZ hS (fun v9 w9 H locs q10 hP hS => ?_) (fun x9 w9 H locs q10 hP hS => q10.elim)
              obtain ⟨hv9, hw9⟩ := q10
              subst hv9
              rw [hw9] at hP
              show W _ _ _ _ _ _ _ _ _ _ _ _ _ _ _ (F0 m 42 ls [.int (t_byte x k)])
              refine lv_bipush (v := 32) hx hb d_Tp_append_42 (by decide) ?_
              refine lv_icmp_lt (tgt := 58) hx hb d_Tp_append_44 (by decide) (fun c44 => ?_) (fun c44 => ?_)
              · refine lv_iconst (v := 0) hx hb d_Tp_append_58 (by decide) ?_
                exact hv_zret (v := 0) hQ hx hb hr (by decide) hZ hS hP hlocks d_Tp_append_59 (Or.inl ⟨rfl, rfl, fun q => Int32.not_lt.mpr ((t_nI_inj hN8 q).2.2 k (by omega)).1 c44⟩)
              · refine lv_lload_n hx hb d_Tp_append_47 rfl (lv_at hl 1 rfl) ?_
                refine lv_iload hx hb d_Tp_append_48 (lv_at hl 3 rfl) ?_
                refine hv_call (hv_runS (As := [.long x, .int (nI k)]) (rest := []) (c_Tp_byteOf C x k) (hv_cw C hZ kc_Tp_byteOf kn_Tp ⟨rfl, rfl, Nat.le_of_ble_eq_true rfl, Nat.le_of_ble_eq_true rfl⟩) hv_blind (hv_pre hZ hS hP) hx hml hb hown (hts _ k_Tp_19) (hts _ ki_Tp_byteOf) (hts _ kn_Tp) hy_Tp_byteOf (hv_sig (hts _ kc_Tp_byteOf)) rfl hl.1 rfl (lv_room (Nat.le_of_ble_eq_true rfl)) d_Tp_append_50 ⟨Nat.le_of_ble_eq_true rfl, Nat.le_of_ble_eq_true rfl⟩) hZ hS (fun v9 w11 H locs q12 hP hS => ?_) (fun x9 w11 H locs q12 hP hS => q12.elim)
                obtain ⟨hv9, hw9⟩ := q12
                subst hv9
                rw [hw9] at hP
                show W _ _ _ _ _ _ _ _ _ _ _ _ _ _ _ (F0 m 53 ls [.int (t_byte x k)])
                refine lv_bipush (v := 126) hx hb d_Tp_append_53 (by decide) ?_
                refine lv_icmp_le (tgt := 60) hx hb d_Tp_append_55 (by decide) (fun c55 => ?_) (fun c55 => ?_)
                · refine lv_iinc (v := (nI (k + 1))) (lv' := [(4, .int ((nI (k + 1)))), (0, .ref a), (1, .long x), (3, .int (nI N))]) hx hb d_Tp_append_60 hl (k := 3) rfl (nI_add k 1) (by decide) rfl (fun ls hl => ?_)
                  refine lv_goto (tgt := 30) hx hb d_Tp_append_63 (by decide) ?_
                  exact ih (k + 1) (by omega) (by omega) (lt_s hj ⟨Int32.not_lt.mp c44, c55⟩) _ _ _ hP hS (lv_sub hl [1, 2, 3, 0] rfl)
                · refine lv_iconst (v := 0) hx hb d_Tp_append_58 (by decide) ?_
                  exact hv_zret (v := 0) hQ hx hb hr (by decide) hZ hS hP hlocks d_Tp_append_59 (Or.inl ⟨rfl, rfl, fun q => c55 ((t_nI_inj hN8 q).2.2 k (by omega)).2⟩)
        exact lp _ 0 (Nat.lt_succ_self _) (Nat.zero_le _) (fun j q => absurd q (Nat.not_lt_zero _)) _ _ _ hP hS (lv_sub hl [1, 2, 3, 0] rfl)
      · refine lv_iconst (v := 0) hx hb d_Tp_append_25 (by decide) ?_
        exact hv_zret (v := 0) hQ hx hb hr (by decide) hZ hS hP hlocks d_Tp_append_26 (Or.inl ⟨rfl, rfl, fun q => by have := (t_nI_inj hN8 q).2.1; omega⟩)

abbrev rm_Tp_pull : Room := { frames := 0, cells := 1, slots := 24, locals := 0 }
set_option maxHeartbeats 4000000 in
set_option maxRecDepth 100000 in
theorem c_Tp_pull {l : Launch} {s0 : State} {D : va_G} {ca : Nat → ClassId} (C : hv_C l s0 D (hv_tys ca)) {w : hv_W} {a tb : Nat} {Mu : Nat → Prop} {xs : List Int32} {f : Nat → Int32} (hMu : ∀ b, Mu b → w b ≠ none) (h0 : w a = some (.inr (3, [.ref tb, .int (nI xs.length)]))) (h1 : w tb = some (.inl (ca 1, 24, .inl f))) (hf : ∀ i, i < xs.length → f i = xs.getD i 0) (hlen : xs.length ≤ 24) (hasc : ∀ y, y ∈ xs → 32 ≤ y ∧ y ≤ 126)  :
    hv_Met l y_Tp_pull [.code y_Tp_pull b_Tp_pull 3 (some (.array .byte))] rm_Tp_pull (hv_Pc s0 D w [.ref a]) (hv_Q s0 D (fun v w' => ∃ r, v = some (va_rf (some r)) ∧ w r = none ∧ g_txt ca Mu w' r xs ∧ w' a = some (.inr (3, [.ref tb, .int 0])) ∧ ∀ b, b ≠ a → b ≠ r → w' b = w b) (fun _ _ => False)) 1 24 (hv_A s0.heap.size) := by
  refine hv_enter C _ (by decide) (Nat.le_of_ble_eq_true rfl) ?_
  intro p e s m below meth c ls Q hQ hx hb hr hml hown hts hK hZ hlocks hname hout htr hP hl
  have hown : s.vm.findClass R_Tp = some m.cls := hown
  have hS : va_S (hv_A s0.heap.size) s.heap s.heap [] := va_S.rf
  have hl : lv_has ls 3 [(0, .ref a)] := hl
  refine lv_aload_n hx hb d_Tp_pull_0 rfl (lv_at hl 0 rfl) ?_
  refine va_get (D := D) (ci := 3) (v := .int (nI xs.length)) (C := R_Tp) (T := F_Tp) (N := 2) hx hb hts i_Tp hown hK (hv_one hP h0) 0 rfl rfl 1 (by decide) (hts _ k_Tp_15) (fun _ h9 => h9) rfl d_Tp_pull_1 ?_
  refine hv_newa (a0 := (xs.length, .inl (fun _ => 0))) hx hb (show (Cond.arrayClass (newarray.typeOf .byte)).before _ s = true from hts _ ka_byte) rfl hK hP hS hZ.2.1 1 rfl (N' := xs.length) (fun _ => rfl) (nI_pos (n := xs.length) (by omega)) (nI_clamp (n := xs.length) (by omega)) (gk_bytes (Nat.le_trans (Nat.mul_le_mul_left _ (by decide : _ ≤ 8)) (by omega))) (Nat.le_of_ble_eq_true rfl) (by show _ + _ ≤ 24; omega) d_Tp_pull_4 (fun q1 H hq2 hP hS => ?_)
  obtain ⟨w3, ew3⟩ : ∃ z9 : hv_W, z9 = va_up w q1 (some (.inl (ca 1, xs.length, .inl (fun _ => 0)))) := ⟨_, rfl⟩
  have hP : hv_P D classes s0.heap.size w3 H := by rw [ew3]; exact hP
  have h4 : w3 a = some (.inr (3, [.ref tb, .int (nI xs.length)])) := by rw [ew3]; exact hv_up_f hq2 h0
  have h5 : w3 tb = some (.inl (ca 1, 24, .inl f)) := by rw [ew3]; exact hv_up_f hq2 h1
  have h6 : w3 q1 = some (.inl (ca 1, xs.length, .inl (fun _ => 0))) := by rw [ew3]; exact hv_up_s
  refine W.widen (k := 1) (n := 24) (by omega) (by omega) ?_
  show W _ _ _ _ _ _ _ _ _ _ _ _ _ _ _ (F0 m 6 ls [.ref q1])
  have hg0 : g_grow w w3 := by rw [ew3]; exact g_grow.new hq2
  refine lv_astore_n (lv' := [(1, .ref q1), (0, .ref a)]) hx hb d_Tp_pull_6 rfl hl (by decide) rfl (fun ls hl => ?_)
  refine lv_iconst (v := 0) hx hb d_Tp_pull_7 (by decide) ?_
  refine lv_istore_n (lv' := [(2, .int 0), (1, .ref q1), (0, .ref a)]) hx hb d_Tp_pull_8 rfl hl (by decide) rfl (fun ls hl => ?_)
  have lp : ∀ (n9 : Nat) (k : Nat) (g : Nat → Int32) (z : hv_W), xs.length - k < n9 → (k ≤ xs.length) → (z q1 = some (.inl (ca 1, xs.length, .inl g))) → (g_grow w z) → (∀ j, j < k → g j = (fun j => xs.getD j 0) j) → (∀ b, b ≠ q1 → z b = w b) → ∀ (H : Heap) (locs : List Loc) (ls : Array Slot), hv_P D classes s0.heap.size z H → va_S (hv_A s0.heap.size) s.heap H locs → lv_has ls 3 [(0, .ref a), (1, .ref q1), (2, .int (nI k))] → W p l e rm_Tp_pull s m ([.ref a] : List Value).toArray below meth c H locs 1 24 Q (F0 m 9 ls []) := by
    intro n9
    induction n9 with
    | zero =>
      intro k g z hn9
      exact absurd hn9 (Nat.not_lt_zero _)
    | succ n9 ih =>
      intro k g z hn9 hk hz hg hj hfr H locs ls hP hS hl
      refine lv_iload_n hx hb d_Tp_pull_9 rfl (lv_at hl 2 rfl) ?_
      refine lv_aload_n hx hb d_Tp_pull_10 rfl (lv_at hl 0 rfl) ?_
      refine va_get (D := D) (ci := 3) (v := .int (nI xs.length)) (C := R_Tp) (T := F_Tp) (N := 2) hx hb hts i_Tp hown hK (hv_one hP (hg _ _ h0)) 0 rfl rfl 1 (by decide) (hts _ k_Tp_15) (fun _ h9 => h9) rfl d_Tp_pull_11 ?_
      refine gk_icmp_ge (x := k) (y := xs.length) (tgt := 32) hx hb d_Tp_pull_14 (by decide) (by omega) (by omega) (fun c14 => ?_) (fun c14 => ?_)
      · refine lv_aload_n hx hb d_Tp_pull_32 rfl (lv_at hl 0 rfl) ?_
        refine lv_iconst (v := 0) hx hb d_Tp_pull_33 (by decide) ?_
        refine hv_put (D := D) (ci := 3) (v := .int 0) (ty := .int) (C := R_Tp) (T := F_Tp) (N := 2) hx hb hts i_Tp t_Tp t_Tp_ok n_Tp hown hK hP hS (hg _ _ h0) rfl 1 (by decide) (hts _ k_Tp_15) (fun _ h9 => h9) rfl (by decide +kernel) rfl rfl (Nat.le_of_ble_eq_true rfl) d_Tp_pull_34 (fun H locs hP hS => ?_)
        obtain ⟨w7, ew7⟩ : ∃ z9 : hv_W, z9 = va_up z a (some (.inr (3, [.ref tb, .int 0]))) := ⟨_, rfl⟩
        have hP : hv_P D classes s0.heap.size w7 H := by rw [ew7]; exact hP
        have h8 : w7 tb = some (.inl (ca 1, 24, .inl f)) := by rw [ew7]; exact hv_up_k (hg _ _ h1) (hv_ne (hg _ _ h1) (hg _ _ h0) (show (100 : Nat) ≠ 3 by decide))
        have h9 : w7 q1 = some (.inl (ca 1, xs.length, .inl g)) := by rw [ew7]; exact hv_up_k hz (Ne.symm (hv_ne_f hq2 h0))
        have h10 : w7 a = some (.inr (3, [.ref tb, .int 0])) := by rw [ew7]; exact hv_up_s
        refine lv_aload_n hx hb d_Tp_pull_37 rfl (lv_at hl 1 rfl) ?_
        exact hv_aret (v := some q1) hQ hx hb hr (Or.inr ⟨_, rfl⟩) hZ hS hP hlocks d_Tp_pull_38 (⟨q1, rfl, hq2, ⟨fun hm => hMu _ hm hq2, g, h9, fun j hj9 => hj j (by omega)⟩, h10, fun b hb1 hb2 => by rw [ew7, hv_up_n hb1]; exact hfr b hb2⟩)
      · refine lv_aload_n hx hb d_Tp_pull_17 rfl (lv_at hl 1 rfl) ?_
        refine lv_iload_n hx hb d_Tp_pull_18 rfl (lv_at hl 2 rfl) ?_
        refine lv_aload_n hx hb d_Tp_pull_19 rfl (lv_at hl 0 rfl) ?_
        refine va_get (D := D) (ci := 3) (v := .ref tb) (C := R_Tp) (T := F_Tp) (N := 2) hx hb hts i_Tp hown hK (hv_one hP (hg _ _ h0)) 0 rfl rfl 0 (by decide) (hts _ k_Tp_9) (fun _ h9 => h9) rfl d_Tp_pull_20 ?_
        refine lv_iload_n hx hb d_Tp_pull_23 rfl (lv_at hl 2 rfl) ?_
        refine va_bald hx hb hK (hv_one hP (hg _ _ h1)) 0 1 rfl rfl (vp_in_nI (n := k) (by omega) (by omega)) d_Tp_pull_24 ?_
        rw [nI_clamp (n := k) (by omega)]
        refine hv_bast hx hb hK hP hS 1 hz rfl (vp_in_nI (n := k) (by omega) (by omega)) d_Tp_pull_25 (fun H locs hP hS => ?_)
        rw [nI_clamp (n := k) (by omega)] at hP
        obtain ⟨w11, ew11⟩ : ∃ z9 : hv_W, z9 = va_up z q1 (some (.inl (ca 1, xs.length, .inl (upd g k (vp_nar .byte (f k)))))) := ⟨_, rfl⟩
        have hP : hv_P D classes s0.heap.size w11 H := by rw [ew11]; exact hP
        have h12 : w11 a = some (.inr (3, [.ref tb, .int (nI xs.length)])) := by rw [ew11]; exact hv_up_k (hg _ _ h0) (hv_ne_f hq2 h0)
        have h13 : w11 tb = some (.inl (ca 1, 24, .inl f)) := by rw [ew11]; exact hv_up_k (hg _ _ h1) (hv_ne_f hq2 h1)
        have h14 : w11 q1 = some (.inl (ca 1, xs.length, .inl (upd g k (vp_nar .byte (f k))))) := by rw [ew11]; exact hv_up_s
        refine lv_iinc (v := (nI (k + 1))) (lv' := [(2, .int ((nI (k + 1)))), (0, .ref a), (1, .ref q1)]) hx hb d_Tp_pull_26 hl (k := 2) rfl (nI_add k 1) (by decide) rfl (fun ls hl => ?_)
        refine lv_goto (tgt := 9) hx hb d_Tp_pull_29 (by decide) ?_
        exact ih (k + 1) (upd g k (vp_nar .byte (f k))) w11 (by omega) (by omega) h14 (g_grow.upd hq2 hg ⟨h14, fun b hb => by rw [ew11, hv_up_n hb]⟩) (gk_fillI (f := fun j => xs.getD j 0) hj (by show vp_nar .byte (f k) = xs.getD k 0; rw [hf k (by omega)]; have h9 := hasc _ (g_getD_mem (xs := xs) (i := k) (by omega)); exact t_nar2 h9.1 h9.2)) (fun b hb => by rw [ew11, hv_up_n hb]; exact hfr b hb) _ _ _ hP hS (lv_sub hl [1, 2, 0] rfl)
  exact lp _ 0 (fun _ => 0) w3 (Nat.lt_succ_self _) (Nat.zero_le _) h6 hg0 (fun j q => absurd q (Nat.not_lt_zero _)) (fun b hb => by rw [ew3, hv_up_n hb]) _ _ _ hP hS (lv_sub hl [2, 1, 0] rfl)

