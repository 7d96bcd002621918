abbrev rm_Lg_writesFor : Room := { frames := 0, cells := 0, slots := 0, locals := 0 }
set_option maxHeartbeats 4000000 in
set_option maxRecDepth 100000 in
theorem c_Lg_writesFor {l : Launch} {s0 : State} {D : va_G} {ca : Nat → ClassId} (C : hv_C l s0 D (hv_tys ca)) {w : hv_W} (n : Int32)  :
    hv_Met l y_Lg_writesFor [.code y_Lg_writesFor b_Lg_writesFor 1 (some .int)] rm_Lg_writesFor (hv_Pc s0 D w [.int n]) (hv_Q s0 D (fun v w' => v = some (.int (lg_wf n)) ∧ w' = w) (fun _ _ => False)) 0 0 (hv_A s0.heap.size) := by
  refine hv_enter C _ (by decide) (Nat.le_of_ble_eq_true rfl) ?_
  intro p e s m below meth c ls Q hQ hx hb hr hml hown hts hK hZ hlocks hname hout htr hP hl
  have hown : s.vm.findClass R_Lg = some m.cls := hown
  have hS : va_S (hv_A s0.heap.size) s.heap s.heap [] := va_S.rf
  have hl : lv_has ls 1 [(0, .int n)] := hl
  refine lv_iload_n hx hb d_Lg_writesFor_0 rfl (lv_at hl 0 rfl) ?_
  refine lv_if_ne (tgt := 8) hx hb d_Lg_writesFor_1 (by decide) (fun c1 => ?_) (fun c1 => ?_)
  · refine lv_iload_n hx hb d_Lg_writesFor_8 rfl (lv_at hl 0 rfl) ?_
    refine lv_iconst (v := 1) hx hb d_Lg_writesFor_9 (by decide) ?_
    refine lv_iadd hx hb d_Lg_writesFor_10 ?_
    exact hv_iret (v := n + 1) hQ hx hb hr hZ hS hP hlocks d_Lg_writesFor_11 (⟨by rw [lg_wf, if_neg c1], rfl⟩)
  · refine lv_iconst (v := 0) hx hb d_Lg_writesFor_4 (by decide) ?_
    refine lv_goto (tgt := 11) hx hb d_Lg_writesFor_5 (by decide) ?_
    exact hv_iret (v := 0) hQ hx hb hr hZ hS hP hlocks d_Lg_writesFor_11 (⟨by rw [lg_wf, if_pos c1], rfl⟩)

abbrev rm_Lg_hasRoom : Room := { frames := 1, cells := 0, slots := 0, locals := 20 }
set_option maxHeartbeats 4000000 in
set_option maxRecDepth 100000 in
theorem c_Lg_hasRoom {l : Launch} {s0 : State} {D : va_G} {ca : Nat → ClassId} (C : hv_C l s0 D (hv_tys ca)) {w : hv_W} {g : Nat} {wr en lo tr ti : Int32} (n : Int32) (h0 : w g = some (.inr (2, [.int wr, .int en, .int lo, .int tr, .int ti])))  :
    hv_Met l y_Lg_hasRoom [.code y_Lg_hasRoom b_Lg_hasRoom 2 (some .boolean)] rm_Lg_hasRoom (hv_Pc s0 D w [.ref g, .int n]) (hv_Q s0 D (fun v w' => v = some (.int (if 250 < en + lg_wf n then 0 else 1)) ∧ w' = w) (fun _ _ => False)) 0 0 (hv_A s0.heap.size) := by
  refine hv_enter C _ (by decide) (Nat.le_of_ble_eq_true rfl) ?_
  intro p e s m below meth c ls Q hQ hx hb hr hml hown hts hK hZ hlocks hname hout htr hP hl
  have hown : s.vm.findClass R_Lg = some m.cls := hown
  have hS : va_S (hv_A s0.heap.size) s.heap s.heap [] := va_S.rf
  have hl : lv_has ls 2 [(0, .ref g), (1, .int n)] := hl
  refine lv_aload_n hx hb d_Lg_hasRoom_0 rfl (lv_at hl 0 rfl) ?_
  refine va_get (D := D) (ci := 2) (v := .int en) (C := R_Lg) (T := F_Lg) (N := 5) hx hb hts i_Lg hown hK (hv_one hP h0) 0 rfl rfl 1 (by decide) (hts _ k_Lg_9) (fun _ h9 => h9) rfl d_Lg_hasRoom_1 ?_
  refine lv_iload_n hx hb d_Lg_hasRoom_4 rfl (lv_at hl 1 rfl) ?_
  refine hv_call (hv_runS (As := [.int n]) (rest := [.int en]) (c_Lg_writesFor C n) (hv_cw C hZ kc_Lg_writesFor kn_Lg ⟨rfl, rfl, Nat.le_of_ble_eq_true rfl, Nat.le_of_ble_eq_true rfl⟩) hv_blind (hv_pre hZ hS hP) hx hml hb hown (hts _ k_Lg_15) (hts _ ki_Lg_writesFor) (hts _ kn_Lg) hy_Lg_writesFor (hv_sig (hts _ kc_Lg_writesFor)) rfl hl.1 rfl (lv_room (Nat.le_of_ble_eq_true rfl)) d_Lg_hasRoom_5 ⟨Nat.le_of_ble_eq_true rfl, Nat.le_of_ble_eq_true rfl⟩) hZ hS (fun v9 w1 H locs q2 hP hS => ?_) (fun x9 w1 H locs q2 hP hS => q2.elim)
  obtain ⟨hv9, hw9⟩ := q2
  subst hv9
  rw [hw9] at hP
  show W _ _ _ _ _ _ _ _ _ _ _ _ _ _ _ (F0 m 8 ls [.int (lg_wf n), .int en])
  refine lv_iadd hx hb d_Lg_hasRoom_8 ?_
  refine lv_sipush (v := 250) hx hb d_Lg_hasRoom_9 (by decide) ?_
  refine lv_icmp_gt (tgt := 19) hx hb d_Lg_hasRoom_12 (by decide) (fun c12 => ?_) (fun c12 => ?_)
  · refine lv_iconst (v := 0) hx hb d_Lg_hasRoom_19 (by decide) ?_
    exact hv_zret (v := 0) hQ hx hb hr (by decide) hZ hS hP hlocks d_Lg_hasRoom_20 (⟨by rw [if_pos c12], rfl⟩)
  · refine lv_iconst (v := 1) hx hb d_Lg_hasRoom_15 (by decide) ?_
    refine lv_goto (tgt := 20) hx hb d_Lg_hasRoom_16 (by decide) ?_
    exact hv_zret (v := 1) hQ hx hb hr (by decide) hZ hS hP hlocks d_Lg_hasRoom_20 (⟨by rw [if_neg c12], rfl⟩)

abbrev rm_Lg_failAt : Room := { frames := 0, cells := 0, slots := 0, locals := 0 }
set_option maxHeartbeats 4000000 in
set_option maxRecDepth 100000 in
theorem c_Lg_failAt {l : Launch} {s0 : State} {D : va_G} {ca : Nat → ClassId} (C : hv_C l s0 D (hv_tys ca)) {w : hv_W} {g : Nat} {wr en lo tr ti : Int32} (n : Int32) (h0 : w g = some (.inr (2, [.int wr, .int en, .int lo, .int tr, .int ti])))  :
    hv_Met l y_Lg_failAt [.code y_Lg_failAt b_Lg_failAt 2 none] rm_Lg_failAt (hv_Pc s0 D w [.ref g, .int n]) (hv_Q s0 D (fun v w' => v = none ∧ hv_U g (.inr (2, [.int wr, .int en, .int lo, .int tr, .int n])) w w') (fun _ _ => False)) 0 0 (hv_A s0.heap.size) := by
  refine hv_enter C _ (by decide) (Nat.le_of_ble_eq_true rfl) ?_
  intro p e s m below meth c ls Q hQ hx hb hr hml hown hts hK hZ hlocks hname hout htr hP hl
  have hown : s.vm.findClass R_Lg = some m.cls := hown
  have hS : va_S (hv_A s0.heap.size) s.heap s.heap [] := va_S.rf
  have hl : lv_has ls 2 [(0, .ref g), (1, .int n)] := hl
  refine lv_aload_n hx hb d_Lg_failAt_0 rfl (lv_at hl 0 rfl) ?_
  refine lv_iload_n hx hb d_Lg_failAt_1 rfl (lv_at hl 1 rfl) ?_
  refine hv_put (D := D) (ci := 2) (v := .int n) (ty := .int) (C := R_Lg) (T := F_Lg) (N := 5) hx hb hts i_Lg t_Lg t_Lg_ok n_Lg hown hK hP hS h0 rfl 4 (by decide) (hts _ k_Lg_19) (fun _ h9 => h9) rfl (by decide +kernel) rfl rfl (Nat.le_of_ble_eq_true rfl) d_Lg_failAt_2 (fun H locs hP hS => ?_)
  obtain ⟨w1, ew1⟩ : ∃ z : hv_W, z = va_up w g (some (.inr (2, [.int wr, .int en, .int lo, .int tr, .int n]))) := ⟨_, rfl⟩
  have hP : hv_P D classes s0.heap.size w1 H := by rw [ew1]; exact hP
  have h2 : w1 g = some (.inr (2, [.int wr, .int en, .int lo, .int tr, .int n])) := by rw [ew1]; exact hv_up_s
  exact hv_vret hQ hx hb hr hZ hS hP hlocks d_Lg_failAt_5 (⟨rfl, h2, fun b9 hb9 => by rw [ew1, hv_up_n hb9]⟩)

abbrev rm_Lg_reopen : Room := { frames := 0, cells := 0, slots := 0, locals := 0 }
set_option maxHeartbeats 4000000 in
set_option maxRecDepth 100000 in
theorem c_Lg_reopen {l : Launch} {s0 : State} {D : va_G} {ca : Nat → ClassId} (C : hv_C l s0 D (hv_tys ca)) {w : hv_W} {g : Nat} {wr en lo tr ti : Int32} (h0 : w g = some (.inr (2, [.int wr, .int en, .int lo, .int tr, .int ti])))  :
    hv_Met l y_Lg_reopen [.code y_Lg_reopen b_Lg_reopen 1 (some .int)] rm_Lg_reopen (hv_Pc s0 D w [.ref g]) (hv_Q s0 D (fun v w' => v = some (.int tr) ∧ hv_U g (.inr (2, [.int wr, .int en, .int 0, .int tr, .int 0])) w w') (fun _ _ => False)) 0 0 (hv_A s0.heap.size) := by
  refine hv_enter C _ (by decide) (Nat.le_of_ble_eq_true rfl) ?_
  intro p e s m below meth c ls Q hQ hx hb hr hml hown hts hK hZ hlocks hname hout htr hP hl
  have hown : s.vm.findClass R_Lg = some m.cls := hown
  have hS : va_S (hv_A s0.heap.size) s.heap s.heap [] := va_S.rf
  have hl : lv_has ls 1 [(0, .ref g)] := hl
  refine lv_aload_n hx hb d_Lg_reopen_0 rfl (lv_at hl 0 rfl) ?_
  refine lv_iconst (v := 0) hx hb d_Lg_reopen_1 (by decide) ?_
  refine hv_put (D := D) (ci := 2) (v := .int 0) (ty := .int) (C := R_Lg) (T := F_Lg) (N := 5) hx hb hts i_Lg t_Lg t_Lg_ok n_Lg hown hK hP hS h0 rfl 2 (by decide) (hts _ k_Lg_25) (fun _ h9 => h9) rfl (by decide +kernel) rfl rfl (Nat.le_of_ble_eq_true rfl) d_Lg_reopen_2 (fun H locs hP hS => ?_)
  obtain ⟨w1, ew1⟩ : ∃ z : hv_W, z = va_up w g (some (.inr (2, [.int wr, .int en, .int 0, .int tr, .int ti]))) := ⟨_, rfl⟩
  have hP : hv_P D classes s0.heap.size w1 H := by rw [ew1]; exact hP
  have h2 : w1 g = some (.inr (2, [.int wr, .int en, .int 0, .int tr, .int ti])) := by rw [ew1]; exact hv_up_s
  refine lv_aload_n hx hb d_Lg_reopen_5 rfl (lv_at hl 0 rfl) ?_
  refine lv_iconst (v := 0) hx hb d_Lg_reopen_6 (by decide) ?_
  refine hv_put (D := D) (ci := 2) (v := .int 0) (ty := .int) (C := R_Lg) (T := F_Lg) (N := 5) hx hb hts i_Lg t_Lg t_Lg_ok n_Lg hown hK hP hS h2 rfl 4 (by decide) (hts _ k_Lg_19) (fun _ h9 => h9) rfl (by decide +kernel) rfl rfl (Nat.le_of_ble_eq_true rfl) d_Lg_reopen_7 (fun H locs hP hS => ?_)
  obtain ⟨w3, ew3⟩ : ∃ z : hv_W, z = va_up w1 g (some (.inr (2, [.int wr, .int en, .int 0, .int tr, .int 0]))) := ⟨_, rfl⟩
  have hP : hv_P D classes s0.heap.size w3 H := by rw [ew3]; exact hP
  have h4 : w3 g = some (.inr (2, [.int wr, .int en, .int 0, .int tr, .int 0])) := by rw [ew3]; exact hv_up_s
  refine lv_aload_n hx hb d_Lg_reopen_10 rfl (lv_at hl 0 rfl) ?_
  refine va_get (D := D) (ci := 2) (v := .int tr) (C := R_Lg) (T := F_Lg) (N := 5) hx hb hts i_Lg hown hK (hv_one hP h4) 0 rfl rfl 3 (by decide) (hts _ k_Lg_28) (fun _ h9 => h9) rfl d_Lg_reopen_11 ?_
  exact hv_iret (v := tr) hQ hx hb hr hZ hS hP hlocks d_Lg_reopen_14 (⟨rfl, h4, fun b9 hb9 => by rw [ew3, hv_up_n hb9, ew1, hv_up_n hb9]⟩)

abbrev rm_Lg_write : Room := { frames := 1, cells := 0, slots := 0, locals := 14 }
set_option maxHeartbeats 4000000 in
set_option maxRecDepth 100000 in
theorem c_Lg_write {l : Launch} {s0 : State} {D : va_G} {ca : Nat → ClassId} (C : hv_C l s0 D (hv_tys ca)) {w : hv_W} {g : Nat} {wr en lo tr ti : Int32} (n : Int32) (h0 : w g = some (.inr (2, [.int wr, .int en, .int lo, .int tr, .int ti])))  :
    hv_Met l y_Lg_write [.code y_Lg_write b_Lg_write 4 (some .int)] rm_Lg_write (hv_Pc s0 D w [.ref g, .int n]) (hv_Q s0 D (fun v w' => v = some (.int (lg_wn ti n)) ∧ hv_U g (.inr (2, [.int (wr + lg_wn ti n), .int en, .int lo, .int tr, .int (lg_wt ti n)])) w w') (fun _ _ => False)) 0 0 (hv_A s0.heap.size) := by
  refine hv_enter C _ (by decide) (Nat.le_of_ble_eq_true rfl) ?_
  intro p e s m below meth c ls Q hQ hx hb hr hml hown hts hK hZ hlocks hname hout htr hP hl
  have hown : s.vm.findClass R_Lg = some m.cls := hown
  have hS : va_S (hv_A s0.heap.size) s.heap s.heap [] := va_S.rf
  have hl : lv_has ls 4 [(0, .ref g), (1, .int n)] := hl
  refine lv_aload_n hx hb d_Lg_write_0 rfl (lv_at hl 0 rfl) ?_
  refine va_get (D := D) (ci := 2) (v := .int ti) (C := R_Lg) (T := F_Lg) (N := 5) hx hb hts i_Lg hown hK (hv_one hP h0) 0 rfl rfl 4 (by decide) (hts _ k_Lg_19) (fun _ h9 => h9) rfl d_Lg_write_1 ?_
  refine lv_if_le (tgt := 19) hx hb d_Lg_write_4 (by decide) (fun c4 => ?_) (fun c4 => ?_)
  · refine lv_iconst (v := 0) hx hb d_Lg_write_19 (by decide) ?_
    refine lv_istore_n (lv' := [(2, .int 0), (0, .ref g), (1, .int n)]) hx hb d_Lg_write_20 rfl hl (by decide) rfl (fun ls hl => ?_)
    refine lv_iload_n hx hb d_Lg_write_21 rfl (lv_at hl 0 rfl) ?_
    refine lv_if_eq (tgt := 34) hx hb d_Lg_write_22 (by decide) (fun c22 => ?_) (fun c22 => ?_)
    · refine lv_iload_n hx hb d_Lg_write_34 rfl (lv_at hl 2 rfl) ?_
      refine lv_topi (fun v9 e9 => ?_)
      have e9 : v9 = lg_wn ti n := e9.trans ((by rw [lg_wn_a c4]))
      subst e9
      show W _ _ _ _ _ _ _ _ _ _ _ _ _ _ _ (F0 m 35 ls [.int (lg_wn ti n)])
      refine lv_istore_n (lv' := [(3, .int (lg_wn ti n)), (2, .int 0), (0, .ref g), (1, .int n)]) hx hb d_Lg_write_35 rfl hl (by decide) rfl (fun ls hl => ?_)
      refine lv_aload_n hx hb d_Lg_write_36 rfl (lv_at hl 2 rfl) ?_
      refine lv_iload_n hx hb d_Lg_write_37 rfl (lv_at hl 1 rfl) ?_
      refine lv_if_eq (tgt := 45) hx hb d_Lg_write_38 (by decide) (fun c38 => ?_) (fun c38 => ?_)
      · refine lv_iconst (v := 0) hx hb d_Lg_write_45 (by decide) ?_
        refine lv_aload_n hx hb d_Lg_write_46 rfl (lv_at hl 2 rfl) ?_
        refine va_get (D := D) (ci := 2) (v := .int ti) (C := R_Lg) (T := F_Lg) (N := 5) hx hb hts i_Lg hown hK (hv_one hP h0) 0 rfl rfl 4 (by decide) (hts _ k_Lg_19) (fun _ h9 => h9) rfl d_Lg_write_47 ?_
        refine lv_iload_n hx hb d_Lg_write_50 rfl (lv_at hl 3 rfl) ?_
        refine lv_isub hx hb d_Lg_write_51 ?_
        refine va_mmax hx hb (hml.trans hl.1.symm) hown (hts _ k_Lg_31) (hts _ ki_mmax) (hts _ kn_Math) (hts _ kc_mmax) (Nat.le_of_ble_eq_true rfl) (Nat.le_of_ble_eq_true rfl) (Nat.le_of_ble_eq_true rfl) (Nat.le_of_ble_eq_true rfl) d_Lg_write_52 ?_
        refine lv_topi (fun v9 e9 => ?_)
        have e9 : v9 = lg_wt ti n := e9.trans ((by rw [lg_wt_a c4]))
        subst e9
        show W _ _ _ _ _ _ _ _ _ _ _ _ _ _ _ (F0 m 55 ls [.int (lg_wt ti n), .ref g])
        refine hv_put (D := D) (ci := 2) (v := .int (lg_wt ti n)) (ty := .int) (C := R_Lg) (T := F_Lg) (N := 5) hx hb hts i_Lg t_Lg t_Lg_ok n_Lg hown hK hP hS h0 rfl 4 (by decide) (hts _ k_Lg_19) (fun _ h9 => h9) rfl (by decide +kernel) rfl rfl (Nat.le_of_ble_eq_true rfl) d_Lg_write_55 (fun H locs hP hS => ?_)
        obtain ⟨w1, ew1⟩ : ∃ z : hv_W, z = va_up w g (some (.inr (2, [.int wr, .int en, .int lo, .int tr, .int (lg_wt ti n)]))) := ⟨_, rfl⟩
        have hP : hv_P D classes s0.heap.size w1 H := by rw [ew1]; exact hP
        have h2 : w1 g = some (.inr (2, [.int wr, .int en, .int lo, .int tr, .int (lg_wt ti n)])) := by rw [ew1]; exact hv_up_s
        refine lv_aload_n hx hb d_Lg_write_58 rfl (lv_at hl 2 rfl) ?_
        refine lv_dup hx hb d_Lg_write_59 rfl ?_
        refine va_get (D := D) (ci := 2) (v := .int wr) (C := R_Lg) (T := F_Lg) (N := 5) hx hb hts i_Lg hown hK (hv_one hP h2) 0 rfl rfl 0 (by decide) (hts _ k_Lg_37) (fun _ h9 => h9) rfl d_Lg_write_60 ?_
        refine lv_iload_n hx hb d_Lg_write_63 rfl (lv_at hl 0 rfl) ?_
        refine lv_iadd hx hb d_Lg_write_64 ?_
        refine hv_put (D := D) (ci := 2) (v := .int (wr + (lg_wn ti n))) (ty := .int) (C := R_Lg) (T := F_Lg) (N := 5) hx hb hts i_Lg t_Lg t_Lg_ok n_Lg hown hK hP hS h2 rfl 0 (by decide) (hts _ k_Lg_37) (fun _ h9 => h9) rfl (by decide +kernel) rfl rfl (Nat.le_of_ble_eq_true rfl) d_Lg_write_65 (fun H locs hP hS => ?_)
        obtain ⟨w3, ew3⟩ : ∃ z : hv_W, z = va_up w1 g (some (.inr (2, [.int (wr + (lg_wn ti n)), .int en, .int lo, .int tr, .int (lg_wt ti n)]))) := ⟨_, rfl⟩
        have hP : hv_P D classes s0.heap.size w3 H := by rw [ew3]; exact hP
        have h4 : w3 g = some (.inr (2, [.int (wr + (lg_wn ti n)), .int en, .int lo, .int tr, .int (lg_wt ti n)])) := by rw [ew3]; exact hv_up_s
        refine lv_iload_n hx hb d_Lg_write_68 rfl (lv_at hl 0 rfl) ?_
        exact hv_iret (v := lg_wn ti n) hQ hx hb hr hZ hS hP hlocks d_Lg_write_69 (⟨rfl, h4, fun b9 hb9 => by rw [ew3, hv_up_n hb9, ew1, hv_up_n hb9]⟩)
      · exact absurd c38 (by decide)
    · exact absurd c22 (by decide)
  · refine lv_aload_n hx hb d_Lg_write_7 rfl (lv_at hl 0 rfl) ?_
    refine va_get (D := D) (ci := 2) (v := .int ti) (C := R_Lg) (T := F_Lg) (N := 5) hx hb hts i_Lg hown hK (hv_one hP h0) 0 rfl rfl 4 (by decide) (hts _ k_Lg_19) (fun _ h9 => h9) rfl d_Lg_write_8 ?_
    refine lv_iload_n hx hb d_Lg_write_11 rfl (lv_at hl 1 rfl) ?_
    refine lv_icmp_gt (tgt := 19) hx hb d_Lg_write_12 (by decide) (fun c12 => ?_) (fun c12 => ?_)
    · refine lv_iconst (v := 0) hx hb d_Lg_write_19 (by decide) ?_
      refine lv_istore_n (lv' := [(2, .int 0), (0, .ref g), (1, .int n)]) hx hb d_Lg_write_20 rfl hl (by decide) rfl (fun ls hl => ?_)
      refine lv_iload_n hx hb d_Lg_write_21 rfl (lv_at hl 0 rfl) ?_
      refine lv_if_eq (tgt := 34) hx hb d_Lg_write_22 (by decide) (fun c22 => ?_) (fun c22 => ?_)
      · refine lv_iload_n hx hb d_Lg_write_34 rfl (lv_at hl 2 rfl) ?_
        refine lv_topi (fun v9 e9 => ?_)
        have e9 : v9 = lg_wn ti n := e9.trans ((by rw [lg_wn_b c4 c12]))
        subst e9
        show W _ _ _ _ _ _ _ _ _ _ _ _ _ _ _ (F0 m 35 ls [.int (lg_wn ti n)])
        refine lv_istore_n (lv' := [(3, .int (lg_wn ti n)), (2, .int 0), (0, .ref g), (1, .int n)]) hx hb d_Lg_write_35 rfl hl (by decide) rfl (fun ls hl => ?_)
        refine lv_aload_n hx hb d_Lg_write_36 rfl (lv_at hl 2 rfl) ?_
        refine lv_iload_n hx hb d_Lg_write_37 rfl (lv_at hl 1 rfl) ?_
        refine lv_if_eq (tgt := 45) hx hb d_Lg_write_38 (by decide) (fun c38 => ?_) (fun c38 => ?_)
        · refine lv_iconst (v := 0) hx hb d_Lg_write_45 (by decide) ?_
          refine lv_aload_n hx hb d_Lg_write_46 rfl (lv_at hl 2 rfl) ?_
          refine va_get (D := D) (ci := 2) (v := .int ti) (C := R_Lg) (T := F_Lg) (N := 5) hx hb hts i_Lg hown hK (hv_one hP h0) 0 rfl rfl 4 (by decide) (hts _ k_Lg_19) (fun _ h9 => h9) rfl d_Lg_write_47 ?_
          refine lv_iload_n hx hb d_Lg_write_50 rfl (lv_at hl 3 rfl) ?_
          refine lv_isub hx hb d_Lg_write_51 ?_
          refine va_mmax hx hb (hml.trans hl.1.symm) hown (hts _ k_Lg_31) (hts _ ki_mmax) (hts _ kn_Math) (hts _ kc_mmax) (Nat.le_of_ble_eq_true rfl) (Nat.le_of_ble_eq_true rfl) (Nat.le_of_ble_eq_true rfl) (Nat.le_of_ble_eq_true rfl) d_Lg_write_52 ?_
          refine lv_topi (fun v9 e9 => ?_)
          have e9 : v9 = lg_wt ti n := e9.trans ((by rw [lg_wt_b c4 c12]))
          subst e9
          show W _ _ _ _ _ _ _ _ _ _ _ _ _ _ _ (F0 m 55 ls [.int (lg_wt ti n), .ref g])
          refine hv_put (D := D) (ci := 2) (v := .int (lg_wt ti n)) (ty := .int) (C := R_Lg) (T := F_Lg) (N := 5) hx hb hts i_Lg t_Lg t_Lg_ok n_Lg hown hK hP hS h0 rfl 4 (by decide) (hts _ k_Lg_19) (fun _ h9 => h9) rfl (by decide +kernel) rfl rfl (Nat.le_of_ble_eq_true rfl) d_Lg_write_55 (fun H locs hP hS => ?_)
          obtain ⟨w5, ew5⟩ : ∃ z : hv_W, z = va_up w g (some (.inr (2, [.int wr, .int en, .int lo, .int tr, .int (lg_wt ti n)]))) := ⟨_, rfl⟩
          have hP : hv_P D classes s0.heap.size w5 H := by rw [ew5]; exact hP
          have h6 : w5 g = some (.inr (2, [.int wr, .int en, .int lo, .int tr, .int (lg_wt ti n)])) := by rw [ew5]; exact hv_up_s
          refine lv_aload_n hx hb d_Lg_write_58 rfl (lv_at hl 2 rfl) ?_
          refine lv_dup hx hb d_Lg_write_59 rfl ?_
          refine va_get (D := D) (ci := 2) (v := .int wr) (C := R_Lg) (T := F_Lg) (N := 5) hx hb hts i_Lg hown hK (hv_one hP h6) 0 rfl rfl 0 (by decide) (hts _ k_Lg_37) (fun _ h9 => h9) rfl d_Lg_write_60 ?_
          refine lv_iload_n hx hb d_Lg_write_63 rfl (lv_at hl 0 rfl) ?_
          refine lv_iadd hx hb d_Lg_write_64 ?_
          refine hv_put (D := D) (ci := 2) (v := .int (wr + (lg_wn ti n))) (ty := .int) (C := R_Lg) (T := F_Lg) (N := 5) hx hb hts i_Lg t_Lg t_Lg_ok n_Lg hown hK hP hS h6 rfl 0 (by decide) (hts _ k_Lg_37) (fun _ h9 => h9) rfl (by decide +kernel) rfl rfl (Nat.le_of_ble_eq_true rfl) d_Lg_write_65 (fun H locs hP hS => ?_)
          obtain ⟨w7, ew7⟩ : ∃ z : hv_W, z = va_up w5 g (some (.inr (2, [.int (wr + (lg_wn ti n)), .int en, .int lo, .int tr, .int (lg_wt ti n)]))) := ⟨_, rfl⟩
          have hP : hv_P D classes s0.heap.size w7 H := by rw [ew7]; exact hP
          have h8 : w7 g = some (.inr (2, [.int (wr + (lg_wn ti n)), .int en, .int lo, .int tr, .int (lg_wt ti n)])) := by rw [ew7]; exact hv_up_s
          refine lv_iload_n hx hb d_Lg_write_68 rfl (lv_at hl 0 rfl) ?_
          exact hv_iret (v := lg_wn ti n) hQ hx hb hr hZ hS hP hlocks d_Lg_write_69 (⟨rfl, h8, fun b9 hb9 => by rw [ew7, hv_up_n hb9, ew5, hv_up_n hb9]⟩)
        · exact absurd c38 (by decide)
      · exact absurd c22 (by decide)
    · refine lv_iconst (v := 1) hx hb d_Lg_write_15 (by decide) ?_
      refine lv_goto (tgt := 20) hx hb d_Lg_write_16 (by decide) ?_
      refine lv_istore_n (lv' := [(2, .int 1), (0, .ref g), (1, .int n)]) hx hb d_Lg_write_20 rfl hl (by decide) rfl (fun ls hl => ?_)
      refine lv_iload_n hx hb d_Lg_write_21 rfl (lv_at hl 0 rfl) ?_
      refine lv_if_eq (tgt := 34) hx hb d_Lg_write_22 (by decide) (fun c22 => ?_) (fun c22 => ?_)
      · exact absurd c22 (by decide)
      · refine lv_aload_n hx hb d_Lg_write_25 rfl (lv_at hl 1 rfl) ?_
        refine va_get (D := D) (ci := 2) (v := .int ti) (C := R_Lg) (T := F_Lg) (N := 5) hx hb hts i_Lg hown hK (hv_one hP h0) 0 rfl rfl 4 (by decide) (hts _ k_Lg_19) (fun _ h9 => h9) rfl d_Lg_write_26 ?_
        refine lv_iconst (v := 1) hx hb d_Lg_write_29 (by decide) ?_
        refine lv_isub hx hb d_Lg_write_30 ?_
        refine lv_goto (tgt := 35) hx hb d_Lg_write_31 (by decide) ?_
        refine lv_topi (fun v9 e9 => ?_)
        have e9 : v9 = lg_wn ti n := e9.trans ((by rw [lg_wn_c c4 c12]))
        subst e9
        show W _ _ _ _ _ _ _ _ _ _ _ _ _ _ _ (F0 m 35 ls [.int (lg_wn ti n)])
        refine lv_istore_n (lv' := [(3, .int (lg_wn ti n)), (2, .int 1), (0, .ref g), (1, .int n)]) hx hb d_Lg_write_35 rfl hl (by decide) rfl (fun ls hl => ?_)
        refine lv_aload_n hx hb d_Lg_write_36 rfl (lv_at hl 2 rfl) ?_
        refine lv_iload_n hx hb d_Lg_write_37 rfl (lv_at hl 1 rfl) ?_
        refine lv_if_eq (tgt := 45) hx hb d_Lg_write_38 (by decide) (fun c38 => ?_) (fun c38 => ?_)
        · exact absurd c38 (by decide)
        · refine lv_iconst (v := 0) hx hb d_Lg_write_41 (by decide) ?_
          refine lv_goto (tgt := 55) hx hb d_Lg_write_42 (by decide) ?_
          refine lv_topi (fun v9 e9 => ?_)
          have e9 : v9 = lg_wt ti n := e9.trans ((by rw [lg_wt_c c4 c12]))
          subst e9
          show W _ _ _ _ _ _ _ _ _ _ _ _ _ _ _ (F0 m 55 ls [.int (lg_wt ti n), .ref g])
          refine hv_put (D := D) (ci := 2) (v := .int (lg_wt ti n)) (ty := .int) (C := R_Lg) (T := F_Lg) (N := 5) hx hb hts i_Lg t_Lg t_Lg_ok n_Lg hown hK hP hS h0 rfl 4 (by decide) (hts _ k_Lg_19) (fun _ h9 => h9) rfl (by decide +kernel) rfl rfl (Nat.le_of_ble_eq_true rfl) d_Lg_write_55 (fun H locs hP hS => ?_)
          obtain ⟨w9, ew9⟩ : ∃ z : hv_W, z = va_up w g (some (.inr (2, [.int wr, .int en, .int lo, .int tr, .int (lg_wt ti n)]))) := ⟨_, rfl⟩
          have hP : hv_P D classes s0.heap.size w9 H := by rw [ew9]; exact hP
          have h10 : w9 g = some (.inr (2, [.int wr, .int en, .int lo, .int tr, .int (lg_wt ti n)])) := by rw [ew9]; exact hv_up_s
          refine lv_aload_n hx hb d_Lg_write_58 rfl (lv_at hl 2 rfl) ?_
          refine lv_dup hx hb d_Lg_write_59 rfl ?_
          refine va_get (D := D) (ci := 2) (v := .int wr) (C := R_Lg) (T := F_Lg) (N := 5) hx hb hts i_Lg hown hK (hv_one hP h10) 0 rfl rfl 0 (by decide) (hts _ k_Lg_37) (fun _ h9 => h9) rfl d_Lg_write_60 ?_
          refine lv_iload_n hx hb d_Lg_write_63 rfl (lv_at hl 0 rfl) ?_
          refine lv_iadd hx hb d_Lg_write_64 ?_
          refine hv_put (D := D) (ci := 2) (v := .int (wr + (lg_wn ti n))) (ty := .int) (C := R_Lg) (T := F_Lg) (N := 5) hx hb hts i_Lg t_Lg t_Lg_ok n_Lg hown hK hP hS h10 rfl 0 (by decide) (hts _ k_Lg_37) (fun _ h9 => h9) rfl (by decide +kernel) rfl rfl (Nat.le_of_ble_eq_true rfl) d_Lg_write_65 (fun H locs hP hS => ?_)
          obtain ⟨w11, ew11⟩ : ∃ z : hv_W, z = va_up w9 g (some (.inr (2, [.int (wr + (lg_wn ti n)), .int en, .int lo, .int tr, .int (lg_wt ti n)]))) := ⟨_, rfl⟩
          have hP : hv_P D classes s0.heap.size w11 H := by rw [ew11]; exact hP
          have h12 : w11 g = some (.inr (2, [.int (wr + (lg_wn ti n)), .int en, .int lo, .int tr, .int (lg_wt ti n)])) := by rw [ew11]; exact hv_up_s
          refine lv_iload_n hx hb d_Lg_write_68 rfl (lv_at hl 0 rfl) ?_
          exact hv_iret (v := lg_wn ti n) hQ hx hb hr hZ hS hP hlocks d_Lg_write_69 (⟨rfl, h12, fun b9 hb9 => by rw [ew11, hv_up_n hb9, ew9, hv_up_n hb9]⟩)

