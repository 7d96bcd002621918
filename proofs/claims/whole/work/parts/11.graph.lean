abbrev rm_Gr_nodeAt : Room := { frames := 0, cells := 0, slots := 0, locals := 0 }
set_option maxHeartbeats 4000000 in
set_option maxRecDepth 100000 in
/-- nodeAt(n): what stands at n, or nothing -/
theorem c_Gr_nodeAt {l : Launch} {s0 : State} {D : va_G} {ca : Nat → ClassId} (C : hv_C l s0 D (hv_tys ca)) {w : hv_W} {g na la : Nat} {fN : Nat → Option Nat} (n : Int32) (h0 : w g = some (.inr (1, [.ref na, .ref la]))) (hN : w na = some (.inl (ca 5, 64, .inr (.inr (.inr (.inr fN))))))  :
    hv_Met l y_Gr_nodeAt [.code y_Gr_nodeAt b_Gr_nodeAt 2 (some (.object "GraphKeep$Node"))] rm_Gr_nodeAt (hv_Pc s0 D w [.ref g, .int n]) (hv_Q s0 D (fun v w' => v = some (va_rf (gk_sel fN 64 n)) ∧ w' = w) (fun _ _ => False)) 0 0 (hv_A s0.heap.size) := by
  refine hv_enter C _ (by decide) (Nat.le_of_ble_eq_true rfl) ?_
  intro p e s m below meth c ls Q hQ hx hb hr hml hown hts hK hZ hlocks hname hout htr hP hl
  have hown : s.vm.findClass R_Gr = some m.cls := hown
  have hS : va_S (hv_A s0.heap.size) s.heap s.heap [] := va_S.rf
  have hl : lv_has ls 2 [(0, .ref g), (1, .int n)] := hl
  refine lv_iload_n hx hb d_Gr_nodeAt_0 rfl (lv_at hl 1 rfl) ?_
  refine lv_if_lt (tgt := 22) hx hb d_Gr_nodeAt_1 (by decide) (fun c1 => ?_) (fun c1 => ?_)
  · refine lv_null hx hb d_Gr_nodeAt_22 ?_
    exact hv_aret (v := none) hQ hx hb hr (Or.inl ⟨_, rfl⟩) hZ hS hP hlocks d_Gr_nodeAt_23 (⟨by rw [gk_sel_lo c1], rfl⟩)
  · refine lv_iload_n hx hb d_Gr_nodeAt_4 rfl (lv_at hl 1 rfl) ?_
    refine lv_aload_n hx hb d_Gr_nodeAt_5 rfl (lv_at hl 0 rfl) ?_
    refine va_get (D := D) (ci := 1) (v := .ref na) (C := R_Gr) (T := F_Gr) (N := 2) hx hb hts i_Gr hown hK (hv_one hP h0) 0 rfl rfl 0 (by decide) (hts _ k_Gr_11) (fun _ h9 => h9) rfl d_Gr_nodeAt_6 ?_
    refine va_alen (v := nI 64) hx hb hK (hv_one hP hN) 0 5 rfl rfl rfl d_Gr_nodeAt_9 ?_
    refine lv_icmp_ge (tgt := 22) hx hb d_Gr_nodeAt_10 (by decide) (fun c10 => ?_) (fun c10 => ?_)
    · refine lv_null hx hb d_Gr_nodeAt_22 ?_
      exact hv_aret (v := none) hQ hx hb hr (Or.inl ⟨_, rfl⟩) hZ hS hP hlocks d_Gr_nodeAt_23 (⟨by rw [gk_sel_hi c10], rfl⟩)
    · refine lv_aload_n hx hb d_Gr_nodeAt_13 rfl (lv_at hl 0 rfl) ?_
      refine va_get (D := D) (ci := 1) (v := .ref na) (C := R_Gr) (T := F_Gr) (N := 2) hx hb hts i_Gr hown hK (hv_one hP h0) 0 rfl rfl 0 (by decide) (hts _ k_Gr_11) (fun _ h9 => h9) rfl d_Gr_nodeAt_14 ?_
      refine lv_iload_n hx hb d_Gr_nodeAt_17 rfl (lv_at hl 1 rfl) ?_
      refine va_aldq hx hb hK (hv_one hP hN) 0 5 rfl rfl (gk_in c1 c10 (by decide)) d_Gr_nodeAt_18 ?_
      refine lv_goto (tgt := 23) hx hb d_Gr_nodeAt_19 (by decide) ?_
      exact hv_aret (v := fN n.toNatClampNeg) hQ hx hb hr (Or.inl ⟨_, rfl⟩) hZ hS hP hlocks d_Gr_nodeAt_23 (⟨by rw [gk_sel_in c1 c10], rfl⟩)

abbrev rm_Gr_linkAt : Room := { frames := 0, cells := 0, slots := 0, locals := 0 }
set_option maxHeartbeats 4000000 in
set_option maxRecDepth 100000 in
/-- linkAt(n): what stands at n, or nothing -/
theorem c_Gr_linkAt {l : Launch} {s0 : State} {D : va_G} {ca : Nat → ClassId} (C : hv_C l s0 D (hv_tys ca)) {w : hv_W} {g na la : Nat} {fL : Nat → Option Nat} (n : Int32) (h0 : w g = some (.inr (1, [.ref na, .ref la]))) (hL : w la = some (.inl (ca 6, 96, .inr (.inr (.inr (.inr fL))))))  :
    hv_Met l y_Gr_linkAt [.code y_Gr_linkAt b_Gr_linkAt 2 (some (.object "GraphKeep$Link"))] rm_Gr_linkAt (hv_Pc s0 D w [.ref g, .int n]) (hv_Q s0 D (fun v w' => v = some (va_rf (gk_sel fL 96 n)) ∧ w' = w) (fun _ _ => False)) 0 0 (hv_A s0.heap.size) := by
  refine hv_enter C _ (by decide) (Nat.le_of_ble_eq_true rfl) ?_
  intro p e s m below meth c ls Q hQ hx hb hr hml hown hts hK hZ hlocks hname hout htr hP hl
  have hown : s.vm.findClass R_Gr = some m.cls := hown
  have hS : va_S (hv_A s0.heap.size) s.heap s.heap [] := va_S.rf
  have hl : lv_has ls 2 [(0, .ref g), (1, .int n)] := hl
  refine lv_iload_n hx hb d_Gr_linkAt_0 rfl (lv_at hl 1 rfl) ?_
  refine lv_if_lt (tgt := 22) hx hb d_Gr_linkAt_1 (by decide) (fun c1 => ?_) (fun c1 => ?_)
  · refine lv_null hx hb d_Gr_linkAt_22 ?_
    exact hv_aret (v := none) hQ hx hb hr (Or.inl ⟨_, rfl⟩) hZ hS hP hlocks d_Gr_linkAt_23 (⟨by rw [gk_sel_lo c1], rfl⟩)
  · refine lv_iload_n hx hb d_Gr_linkAt_4 rfl (lv_at hl 1 rfl) ?_
    refine lv_aload_n hx hb d_Gr_linkAt_5 rfl (lv_at hl 0 rfl) ?_
    refine va_get (D := D) (ci := 1) (v := .ref la) (C := R_Gr) (T := F_Gr) (N := 2) hx hb hts i_Gr hown hK (hv_one hP h0) 0 rfl rfl 1 (by decide) (hts _ k_Gr_19) (fun _ h9 => h9) rfl d_Gr_linkAt_6 ?_
    refine va_alen (v := nI 96) hx hb hK (hv_one hP hL) 0 6 rfl rfl rfl d_Gr_linkAt_9 ?_
    refine lv_icmp_ge (tgt := 22) hx hb d_Gr_linkAt_10 (by decide) (fun c10 => ?_) (fun c10 => ?_)
    · refine lv_null hx hb d_Gr_linkAt_22 ?_
      exact hv_aret (v := none) hQ hx hb hr (Or.inl ⟨_, rfl⟩) hZ hS hP hlocks d_Gr_linkAt_23 (⟨by rw [gk_sel_hi c10], rfl⟩)
    · refine lv_aload_n hx hb d_Gr_linkAt_13 rfl (lv_at hl 0 rfl) ?_
      refine va_get (D := D) (ci := 1) (v := .ref la) (C := R_Gr) (T := F_Gr) (N := 2) hx hb hts i_Gr hown hK (hv_one hP h0) 0 rfl rfl 1 (by decide) (hts _ k_Gr_19) (fun _ h9 => h9) rfl d_Gr_linkAt_14 ?_
      refine lv_iload_n hx hb d_Gr_linkAt_17 rfl (lv_at hl 1 rfl) ?_
      refine va_aldq hx hb hK (hv_one hP hL) 0 6 rfl rfl (gk_in c1 c10 (by decide)) d_Gr_linkAt_18 ?_
      refine lv_goto (tgt := 23) hx hb d_Gr_linkAt_19 (by decide) ?_
      exact hv_aret (v := fL n.toNatClampNeg) hQ hx hb hr (Or.inl ⟨_, rfl⟩) hZ hS hP hlocks d_Gr_linkAt_23 (⟨by rw [gk_sel_in c1 c10], rfl⟩)

abbrev rm_Gr_thingAt : Room := { frames := 1, cells := 0, slots := 0, locals := 21 }
set_option maxHeartbeats 4000000 in
set_option maxRecDepth 100000 in
/-- thingAt(k, n) -/
theorem c_Gr_thingAt {l : Launch} {s0 : State} {D : va_G} {ca : Nat → ClassId} (C : hv_C l s0 D (hv_tys ca)) {w : hv_W} {g na la : Nat} {fN fL : Nat → Option Nat} (k n : Int32) (h0 : w g = some (.inr (1, [.ref na, .ref la]))) (hN : w na = some (.inl (ca 5, 64, .inr (.inr (.inr (.inr fN)))))) (hL : w la = some (.inl (ca 6, 96, .inr (.inr (.inr (.inr fL))))))  :
    hv_Met l y_Gr_thingAt [.code y_Gr_thingAt b_Gr_thingAt 3 (some (.object "GraphKeep$Thing"))] rm_Gr_thingAt (hv_Pc s0 D w [.ref g, .int k, .int n]) (hv_Q s0 D (fun v w' => v = some (va_rf (gk_thing fN fL k n)) ∧ w' = w) (fun _ _ => False)) 0 0 (hv_A s0.heap.size) := by
  refine hv_enter C _ (by decide) (Nat.le_of_ble_eq_true rfl) ?_
  intro p e s m below meth c ls Q hQ hx hb hr hml hown hts hK hZ hlocks hname hout htr hP hl
  have hown : s.vm.findClass R_Gr = some m.cls := hown
  have hS : va_S (hv_A s0.heap.size) s.heap s.heap [] := va_S.rf
  have hl : lv_has ls 3 [(0, .ref g), (1, .int k), (2, .int n)] := hl
  refine lv_iload_n hx hb d_Gr_thingAt_0 rfl (lv_at hl 1 rfl) ?_
  refine lv_iconst (v := 4) hx hb d_Gr_thingAt_1 (by decide) ?_
  refine lv_icmp_ne (tgt := 11) hx hb d_Gr_thingAt_2 (by decide) (fun c2 => ?_) (fun c2 => ?_)
  · refine lv_iload_n hx hb d_Gr_thingAt_11 rfl (lv_at hl 1 rfl) ?_
    refine lv_iconst (v := 5) hx hb d_Gr_thingAt_12 (by decide) ?_
    refine lv_icmp_ne (tgt := 24) hx hb d_Gr_thingAt_13 (by decide) (fun c13 => ?_) (fun c13 => ?_)
    · refine lv_null hx hb d_Gr_thingAt_24 ?_
      exact hv_aret (v := none) hQ hx hb hr (Or.inl ⟨_, rfl⟩) hZ hS hP hlocks d_Gr_thingAt_25 (⟨by rw [gk_thing, if_neg c2, if_neg c13], rfl⟩)
    · refine lv_aload_n hx hb d_Gr_thingAt_16 rfl (lv_at hl 0 rfl) ?_
      refine lv_iload_n hx hb d_Gr_thingAt_17 rfl (lv_at hl 2 rfl) ?_
      refine hv_call (hv_runV (As := [.int n]) (rest := []) (c_Gr_linkAt C n h0 hL) (hv_cw C hZ kc_Gr_linkAt kn_Gr ⟨rfl, rfl, Nat.le_of_ble_eq_true rfl, Nat.le_of_ble_eq_true rfl⟩) hv_blind (hv_pre hZ hS hP) hx hml hb hown (hts _ k_Gr_27) (hts _ ki_Gr_linkAt) (hts _ ksel_Gr_Gr_linkAt) hy_Gr_linkAt (hts _ kc_Gr_linkAt) (va_recv hK (hv_one hP h0) (ci := 1) (q0 := 0) rfl rfl) rfl hl.1 rfl (lv_room (Nat.le_of_ble_eq_true rfl)) d_Gr_thingAt_18 ⟨Nat.le_of_ble_eq_true rfl, Nat.le_of_ble_eq_true rfl⟩) hZ hS (fun v9 w1 H locs q2 hP hS => ?_) (fun x9 w1 H locs q2 hP hS => q2.elim)
      obtain ⟨hv9, hw9⟩ := q2
      subst hv9
      rw [hw9] at hP
      show W _ _ _ _ _ _ _ _ _ _ _ _ _ _ _ (F0 m 21 ls [va_rf (gk_sel fL 96 n)])
      refine lv_goto (tgt := 25) hx hb d_Gr_thingAt_21 (by decide) ?_
      exact hv_aret (v := gk_sel fL 96 n) hQ hx hb hr (Or.inl ⟨_, rfl⟩) hZ hS hP hlocks d_Gr_thingAt_25 (⟨by rw [gk_thing, if_neg c2, if_pos c13], rfl⟩)
  · refine lv_aload_n hx hb d_Gr_thingAt_5 rfl (lv_at hl 0 rfl) ?_
    refine lv_iload_n hx hb d_Gr_thingAt_6 rfl (lv_at hl 2 rfl) ?_
    refine hv_call (hv_runV (As := [.int n]) (rest := []) (c_Gr_nodeAt C n h0 hN) (hv_cw C hZ kc_Gr_nodeAt kn_Gr ⟨rfl, rfl, Nat.le_of_ble_eq_true rfl, Nat.le_of_ble_eq_true rfl⟩) hv_blind (hv_pre hZ hS hP) hx hml hb hown (hts _ k_Gr_23) (hts _ ki_Gr_nodeAt) (hts _ ksel_Gr_Gr_nodeAt) hy_Gr_nodeAt (hts _ kc_Gr_nodeAt) (va_recv hK (hv_one hP h0) (ci := 1) (q0 := 0) rfl rfl) rfl hl.1 rfl (lv_room (Nat.le_of_ble_eq_true rfl)) d_Gr_thingAt_7 ⟨Nat.le_of_ble_eq_true rfl, Nat.le_of_ble_eq_true rfl⟩) hZ hS (fun v9 w3 H locs q4 hP hS => ?_) (fun x9 w3 H locs q4 hP hS => q4.elim)
    obtain ⟨hv9, hw9⟩ := q4
    subst hv9
    rw [hw9] at hP
    show W _ _ _ _ _ _ _ _ _ _ _ _ _ _ _ (F0 m 10 ls [va_rf (gk_sel fN 64 n)])
    exact hv_aret (v := gk_sel fN 64 n) hQ hx hb hr (Or.inl ⟨_, rfl⟩) hZ hS hP hlocks d_Gr_thingAt_10 (⟨by rw [gk_thing, if_pos c2], rfl⟩)

abbrev rm_Gr_countNodes : Room := { frames := 0, cells := 0, slots := 0, locals := 0 }
set_option maxHeartbeats 4000000 in
set_option maxRecDepth 100000 in
/-- countNodes(): how many stand there -/
theorem c_Gr_countNodes {l : Launch} {s0 : State} {D : va_G} {ca : Nat → ClassId} (C : hv_C l s0 D (hv_tys ca)) {w : hv_W} {g na la : Nat} {fN : Nat → Option Nat} (h0 : w g = some (.inr (1, [.ref na, .ref la]))) (hN : w na = some (.inl (ca 5, 64, .inr (.inr (.inr (.inr fN))))))  :
    hv_Met l y_Gr_countNodes [.code y_Gr_countNodes b_Gr_countNodes 3 (some .int)] rm_Gr_countNodes (hv_Pc s0 D w [.ref g]) (hv_Q s0 D (fun v w' => v = some (.int (nI (gk_cnt fN 64))) ∧ w' = w) (fun _ _ => False)) 0 0 (hv_A s0.heap.size) := by
  refine hv_enter C _ (by decide) (Nat.le_of_ble_eq_true rfl) ?_
  intro p e s m below meth c ls Q hQ hx hb hr hml hown hts hK hZ hlocks hname hout htr hP hl
  have hown : s.vm.findClass R_Gr = some m.cls := hown
  have hS : va_S (hv_A s0.heap.size) s.heap s.heap [] := va_S.rf
  have hl : lv_has ls 3 [(0, .ref g)] := hl
  refine lv_iconst (v := 0) hx hb d_Gr_countNodes_0 (by decide) ?_
  refine lv_istore_n (lv' := [(1, .int 0), (0, .ref g)]) hx hb d_Gr_countNodes_1 rfl hl (by decide) rfl (fun ls hl => ?_)
  refine lv_iconst (v := 0) hx hb d_Gr_countNodes_2 (by decide) ?_
  refine lv_istore_n (lv' := [(2, .int 0), (1, .int 0), (0, .ref g)]) hx hb d_Gr_countNodes_3 rfl hl (by decide) rfl (fun ls hl => ?_)
  have lp : ∀ (n9 : Nat) (i : Nat), 64 - i < n9 → (i ≤ 64) → ∀ (H : Heap) (locs : List Loc) (ls : Array Slot), hv_P D classes s0.heap.size w H → va_S (hv_A s0.heap.size) s.heap H locs → lv_has ls 3 [(0, .ref g), (1, .int (nI (gk_cnt fN i))), (2, .int (nI i))] → W p l e rm_Gr_countNodes s m ([.ref g] : List Value).toArray below meth c H locs 0 0 Q (F0 m 4 ls []) := by
    intro n9
    induction n9 with
    | zero =>
      intro i hn9
      exact absurd hn9 (Nat.not_lt_zero _)
    | succ n9 ih =>
      intro i hn9 hi H locs ls hP hS hl
      refine lv_iload_n hx hb d_Gr_countNodes_4 rfl (lv_at hl 2 rfl) ?_
      refine lv_aload_n hx hb d_Gr_countNodes_5 rfl (lv_at hl 0 rfl) ?_
      refine va_get (D := D) (ci := 1) (v := .ref na) (C := R_Gr) (T := F_Gr) (N := 2) hx hb hts i_Gr hown hK (hv_one hP h0) 0 rfl rfl 0 (by decide) (hts _ k_Gr_11) (fun _ h9 => h9) rfl d_Gr_countNodes_6 ?_
      refine va_alen (v := nI 64) hx hb hK (hv_one hP hN) 0 5 rfl rfl rfl d_Gr_countNodes_9 ?_
      refine lv_icmp_ge (tgt := 36) hx hb d_Gr_countNodes_10 (by decide) (fun c10 => ?_) (fun c10 => ?_)
      · have hi2 : i = 64 := Nat.le_antisymm hi (gk_ge c10 (by decide) (by omega))
        refine lv_iload_n hx hb d_Gr_countNodes_36 rfl (lv_at hl 1 rfl) ?_
        exact hv_iret (v := nI (gk_cnt fN i)) hQ hx hb hr hZ hS hP hlocks d_Gr_countNodes_37 (⟨by rw [hi2], rfl⟩)
      · have hlt : i < 64 := gk_lt c10 (by decide) (by omega)
        refine lv_iload_n hx hb d_Gr_countNodes_13 rfl (lv_at hl 1 rfl) ?_
        refine lv_aload_n hx hb d_Gr_countNodes_14 rfl (lv_at hl 0 rfl) ?_
        refine va_get (D := D) (ci := 1) (v := .ref na) (C := R_Gr) (T := F_Gr) (N := 2) hx hb hts i_Gr hown hK (hv_one hP h0) 0 rfl rfl 0 (by decide) (hts _ k_Gr_11) (fun _ h9 => h9) rfl d_Gr_countNodes_15 ?_
        refine lv_iload_n hx hb d_Gr_countNodes_18 rfl (lv_at hl 2 rfl) ?_
        refine va_aldq hx hb hK (hv_one hP hN) 0 5 rfl rfl (vp_in_nI hlt (by decide)) d_Gr_countNodes_19 ?_
        rw [nI_clamp (n := i) (by omega)]
        cases h9 : fN i with
        | none =>
          show W _ _ _ _ _ _ _ _ _ _ _ _ _ _ _ (F0 m 20 ls [.null, .int (nI (gk_cnt fN i))])
          refine lv_ifnonnullN hx hb d_Gr_countNodes_20 ?_
          refine lv_iconst (v := 0) hx hb d_Gr_countNodes_23 (by decide) ?_
          refine lv_goto (tgt := 28) hx hb d_Gr_countNodes_24 (by decide) ?_
          refine lv_iadd hx hb d_Gr_countNodes_28 ?_
          refine lv_topi (fun v9 e9 => ?_)
          have e9 : v9 = nI (gk_cnt fN (i + 1)) := e9.trans (gk_cnt_n h9)
          subst e9
          show W _ _ _ _ _ _ _ _ _ _ _ _ _ _ _ (F0 m 29 ls [.int (nI (gk_cnt fN (i + 1)))])
          refine lv_istore_n (lv' := [(1, .int (nI (gk_cnt fN (i + 1)))), (0, .ref g), (2, .int (nI i))]) hx hb d_Gr_countNodes_29 rfl hl (by decide) rfl (fun ls hl => ?_)
          refine lv_iinc (v := (nI (i + 1))) (lv' := [(2, .int ((nI (i + 1)))), (1, .int (nI (gk_cnt fN (i + 1)))), (0, .ref g)]) hx hb d_Gr_countNodes_30 hl (k := 2) rfl (nI_1 i) (by decide) rfl (fun ls hl => ?_)
          refine lv_goto (tgt := 4) hx hb d_Gr_countNodes_33 (by decide) ?_
          exact ih (i + 1) (by omega) hlt _ _ _ hP hS (lv_sub hl [2, 1, 0] rfl)
        | some a =>
          show W _ _ _ _ _ _ _ _ _ _ _ _ _ _ _ (F0 m 20 ls [.ref a, .int (nI (gk_cnt fN i))])
          refine lv_ifnonnull (tgt := 27) hx hb d_Gr_countNodes_20 (by decide) ?_
          refine lv_iconst (v := 1) hx hb d_Gr_countNodes_27 (by decide) ?_
          refine lv_iadd hx hb d_Gr_countNodes_28 ?_
          refine lv_topi (fun v9 e9 => ?_)
          have e9 : v9 = nI (gk_cnt fN (i + 1)) := e9.trans (gk_cnt_s h9)
          subst e9
          show W _ _ _ _ _ _ _ _ _ _ _ _ _ _ _ (F0 m 29 ls [.int (nI (gk_cnt fN (i + 1)))])
          refine lv_istore_n (lv' := [(1, .int (nI (gk_cnt fN (i + 1)))), (0, .ref g), (2, .int (nI i))]) hx hb d_Gr_countNodes_29 rfl hl (by decide) rfl (fun ls hl => ?_)
          refine lv_iinc (v := (nI (i + 1))) (lv' := [(2, .int ((nI (i + 1)))), (1, .int (nI (gk_cnt fN (i + 1)))), (0, .ref g)]) hx hb d_Gr_countNodes_30 hl (k := 2) rfl (nI_1 i) (by decide) rfl (fun ls hl => ?_)
          refine lv_goto (tgt := 4) hx hb d_Gr_countNodes_33 (by decide) ?_
          exact ih (i + 1) (by omega) hlt _ _ _ hP hS (lv_sub hl [2, 1, 0] rfl)
  exact lp _ 0 (Nat.lt_succ_self _) (Nat.zero_le _) _ _ _ hP hS (lv_sub hl [2, 1, 0] rfl)

abbrev rm_Gr_countLinks : Room := { frames := 0, cells := 0, slots := 0, locals := 0 }
set_option maxHeartbeats 4000000 in
set_option maxRecDepth 100000 in
/-- countLinks(): how many stand there -/
theorem c_Gr_countLinks {l : Launch} {s0 : State} {D : va_G} {ca : Nat → ClassId} (C : hv_C l s0 D (hv_tys ca)) {w : hv_W} {g na la : Nat} {fL : Nat → Option Nat} (h0 : w g = some (.inr (1, [.ref na, .ref la]))) (hL : w la = some (.inl (ca 6, 96, .inr (.inr (.inr (.inr fL))))))  :
    hv_Met l y_Gr_countLinks [.code y_Gr_countLinks b_Gr_countLinks 3 (some .int)] rm_Gr_countLinks (hv_Pc s0 D w [.ref g]) (hv_Q s0 D (fun v w' => v = some (.int (nI (gk_cnt fL 96))) ∧ w' = w) (fun _ _ => False)) 0 0 (hv_A s0.heap.size) := by
  refine hv_enter C _ (by decide) (Nat.le_of_ble_eq_true rfl) ?_
  intro p e s m below meth c ls Q hQ hx hb hr hml hown hts hK hZ hlocks hname hout htr hP hl
  have hown : s.vm.findClass R_Gr = some m.cls := hown
  have hS : va_S (hv_A s0.heap.size) s.heap s.heap [] := va_S.rf
  have hl : lv_has ls 3 [(0, .ref g)] := hl
  refine lv_iconst (v := 0) hx hb d_Gr_countLinks_0 (by decide) ?_
  refine lv_istore_n (lv' := [(1, .int 0), (0, .ref g)]) hx hb d_Gr_countLinks_1 rfl hl (by decide) rfl (fun ls hl => ?_)
  refine lv_iconst (v := 0) hx hb d_Gr_countLinks_2 (by decide) ?_
  refine lv_istore_n (lv' := [(2, .int 0), (1, .int 0), (0, .ref g)]) hx hb d_Gr_countLinks_3 rfl hl (by decide) rfl (fun ls hl => ?_)
  have lp : ∀ (n9 : Nat) (i : Nat), 96 - i < n9 → (i ≤ 96) → ∀ (H : Heap) (locs : List Loc) (ls : Array Slot), hv_P D classes s0.heap.size w H → va_S (hv_A s0.heap.size) s.heap H locs → lv_has ls 3 [(0, .ref g), (1, .int (nI (gk_cnt fL i))), (2, .int (nI i))] → W p l e rm_Gr_countLinks s m ([.ref g] : List Value).toArray below meth c H locs 0 0 Q (F0 m 4 ls []) := by
    intro n9
    induction n9 with
    | zero =>
      intro i hn9
      exact absurd hn9 (Nat.not_lt_zero _)
    | succ n9 ih =>
      intro i hn9 hi H locs ls hP hS hl
      refine lv_iload_n hx hb d_Gr_countLinks_4 rfl (lv_at hl 2 rfl) ?_
      refine lv_aload_n hx hb d_Gr_countLinks_5 rfl (lv_at hl 0 rfl) ?_
      refine va_get (D := D) (ci := 1) (v := .ref la) (C := R_Gr) (T := F_Gr) (N := 2) hx hb hts i_Gr hown hK (hv_one hP h0) 0 rfl rfl 1 (by decide) (hts _ k_Gr_19) (fun _ h9 => h9) rfl d_Gr_countLinks_6 ?_
      refine va_alen (v := nI 96) hx hb hK (hv_one hP hL) 0 6 rfl rfl rfl d_Gr_countLinks_9 ?_
      refine lv_icmp_ge (tgt := 36) hx hb d_Gr_countLinks_10 (by decide) (fun c10 => ?_) (fun c10 => ?_)
      · have hi2 : i = 96 := Nat.le_antisymm hi (gk_ge c10 (by decide) (by omega))
        refine lv_iload_n hx hb d_Gr_countLinks_36 rfl (lv_at hl 1 rfl) ?_
        exact hv_iret (v := nI (gk_cnt fL i)) hQ hx hb hr hZ hS hP hlocks d_Gr_countLinks_37 (⟨by rw [hi2], rfl⟩)
      · have hlt : i < 96 := gk_lt c10 (by decide) (by omega)
        refine lv_iload_n hx hb d_Gr_countLinks_13 rfl (lv_at hl 1 rfl) ?_
        refine lv_aload_n hx hb d_Gr_countLinks_14 rfl (lv_at hl 0 rfl) ?_
        refine va_get (D := D) (ci := 1) (v := .ref la) (C := R_Gr) (T := F_Gr) (N := 2) hx hb hts i_Gr hown hK (hv_one hP h0) 0 rfl rfl 1 (by decide) (hts _ k_Gr_19) (fun _ h9 => h9) rfl d_Gr_countLinks_15 ?_
        refine lv_iload_n hx hb d_Gr_countLinks_18 rfl (lv_at hl 2 rfl) ?_
        refine va_aldq hx hb hK (hv_one hP hL) 0 6 rfl rfl (vp_in_nI hlt (by decide)) d_Gr_countLinks_19 ?_
        rw [nI_clamp (n := i) (by omega)]
        cases h9 : fL i with
        | none =>
          show W _ _ _ _ _ _ _ _ _ _ _ _ _ _ _ (F0 m 20 ls [.null, .int (nI (gk_cnt fL i))])
          refine lv_ifnonnullN hx hb d_Gr_countLinks_20 ?_
          refine lv_iconst (v := 0) hx hb d_Gr_countLinks_23 (by decide) ?_
          refine lv_goto (tgt := 28) hx hb d_Gr_countLinks_24 (by decide) ?_
          refine lv_iadd hx hb d_Gr_countLinks_28 ?_
          refine lv_topi (fun v9 e9 => ?_)
          have e9 : v9 = nI (gk_cnt fL (i + 1)) := e9.trans (gk_cnt_n h9)
          subst e9
          show W _ _ _ _ _ _ _ _ _ _ _ _ _ _ _ (F0 m 29 ls [.int (nI (gk_cnt fL (i + 1)))])
          refine lv_istore_n (lv' := [(1, .int (nI (gk_cnt fL (i + 1)))), (0, .ref g), (2, .int (nI i))]) hx hb d_Gr_countLinks_29 rfl hl (by decide) rfl (fun ls hl => ?_)
          refine lv_iinc (v := (nI (i + 1))) (lv' := [(2, .int ((nI (i + 1)))), (1, .int (nI (gk_cnt fL (i + 1)))), (0, .ref g)]) hx hb d_Gr_countLinks_30 hl (k := 2) rfl (nI_1 i) (by decide) rfl (fun ls hl => ?_)
          refine lv_goto (tgt := 4) hx hb d_Gr_countLinks_33 (by decide) ?_
          exact ih (i + 1) (by omega) hlt _ _ _ hP hS (lv_sub hl [2, 1, 0] rfl)
        | some a =>
          show W _ _ _ _ _ _ _ _ _ _ _ _ _ _ _ (F0 m 20 ls [.ref a, .int (nI (gk_cnt fL i))])
          refine lv_ifnonnull (tgt := 27) hx hb d_Gr_countLinks_20 (by decide) ?_
          refine lv_iconst (v := 1) hx hb d_Gr_countLinks_27 (by decide) ?_
          refine lv_iadd hx hb d_Gr_countLinks_28 ?_
          refine lv_topi (fun v9 e9 => ?_)
          have e9 : v9 = nI (gk_cnt fL (i + 1)) := e9.trans (gk_cnt_s h9)
          subst e9
          show W _ _ _ _ _ _ _ _ _ _ _ _ _ _ _ (F0 m 29 ls [.int (nI (gk_cnt fL (i + 1)))])
          refine lv_istore_n (lv' := [(1, .int (nI (gk_cnt fL (i + 1)))), (0, .ref g), (2, .int (nI i))]) hx hb d_Gr_countLinks_29 rfl hl (by decide) rfl (fun ls hl => ?_)
          refine lv_iinc (v := (nI (i + 1))) (lv' := [(2, .int ((nI (i + 1)))), (1, .int (nI (gk_cnt fL (i + 1)))), (0, .ref g)]) hx hb d_Gr_countLinks_30 hl (k := 2) rfl (nI_1 i) (by decide) rfl (fun ls hl => ?_)
          refine lv_goto (tgt := 4) hx hb d_Gr_countLinks_33 (by decide) ?_
          exact ih (i + 1) (by omega) hlt _ _ _ hP hS (lv_sub hl [2, 1, 0] rfl)
  exact lp _ 0 (Nat.lt_succ_self _) (Nat.zero_le _) _ _ _ hP hS (lv_sub hl [2, 1, 0] rfl)

abbrev rm_Gr_isInChain : Room := { frames := 1, cells := 0, slots := 0, locals := 21 }
set_option maxHeartbeats 4000000 in
set_option maxRecDepth 100000 in
/-- isInChain(n, d, out) -/
theorem c_Gr_isInChain {l : Launch} {s0 : State} {D : va_G} {ca : Nat → ClassId} (C : hv_C l s0 D (hv_tys ca)) {w : hv_W} {g na la : Nat} {fL : Nat → Option Nat} {lk : Nat → Nat × Int32 × Int32 × Int32} (n d o : Int32) (h0 : w g = some (.inr (1, [.ref na, .ref la]))) (hL : w la = some (.inl (ca 6, 96, .inr (.inr (.inr (.inr fL)))))) (hk : ∀ i, i < 96 → ∀ a, fL i = some a → w a = some (.inr (6, [.ref (lk a).1, .int (lk a).2.1, .int (lk a).2.2.1, .int (lk a).2.2.2])))  :
    hv_Met l y_Gr_isInChain [.code y_Gr_isInChain b_Gr_isInChain 5 (some .boolean)] rm_Gr_isInChain (hv_Pc s0 D w [.ref g, .int n, .int d, .int o]) (hv_Q s0 D (fun v w' => v = some (.int (gk_inch fL lk n d o)) ∧ w' = w) (fun _ _ => False)) 0 0 (hv_A s0.heap.size) := by
  refine hv_enter C _ (by decide) (Nat.le_of_ble_eq_true rfl) ?_
  intro p e s m below meth c ls Q hQ hx hb hr hml hown hts hK hZ hlocks hname hout htr hP hl
  have hown : s.vm.findClass R_Gr = some m.cls := hown
  have hS : va_S (hv_A s0.heap.size) s.heap s.heap [] := va_S.rf
  have hl : lv_has ls 5 [(0, .ref g), (1, .int n), (2, .int d), (3, .int o)] := hl
  refine lv_aload_n hx hb d_Gr_isInChain_0 rfl (lv_at hl 0 rfl) ?_
  refine lv_iload_n hx hb d_Gr_isInChain_1 rfl (lv_at hl 1 rfl) ?_
  refine hv_call (hv_runV (As := [.int n]) (rest := []) (c_Gr_linkAt C n h0 hL) (hv_cw C hZ kc_Gr_linkAt kn_Gr ⟨rfl, rfl, Nat.le_of_ble_eq_true rfl, Nat.le_of_ble_eq_true rfl⟩) hv_blind (hv_pre hZ hS hP) hx hml hb hown (hts _ k_Gr_27) (hts _ ki_Gr_linkAt) (hts _ ksel_Gr_Gr_linkAt) hy_Gr_linkAt (hts _ kc_Gr_linkAt) (va_recv hK (hv_one hP h0) (ci := 1) (q0 := 0) rfl rfl) rfl hl.1 rfl (lv_room (Nat.le_of_ble_eq_true rfl)) d_Gr_isInChain_2 ⟨Nat.le_of_ble_eq_true rfl, Nat.le_of_ble_eq_true rfl⟩) hZ hS (fun v9 w1 H locs q2 hP hS => ?_) (fun x9 w1 H locs q2 hP hS => q2.elim)
  obtain ⟨hv9, hw9⟩ := q2
  subst hv9
  rw [hw9] at hP
  show W _ _ _ _ _ _ _ _ _ _ _ _ _ _ _ (F0 m 5 ls [va_rf (gk_sel fL 96 n)])
  cases h9 : gk_sel fL 96 n with
  | none =>
    show W _ _ _ _ _ _ _ _ _ _ _ _ _ _ _ (F0 m 5 ls [.null])
    refine lv_astoreN (lv' := [(4, .null), (0, .ref g), (1, .int n), (2, .int d), (3, .int o)]) hx hb d_Gr_isInChain_5 hl (by decide) rfl (fun ls hl => ?_)
    refine lv_aloadN hx hb d_Gr_isInChain_7 (lv_at hl 0 rfl) ?_
    refine lv_ifnullN (tgt := 37) hx hb d_Gr_isInChain_9 (by decide) ?_
    refine lv_iconst (v := 0) hx hb d_Gr_isInChain_37 (by decide) ?_
    exact hv_zret (v := 0) hQ hx hb hr (by decide) hZ hS hP hlocks d_Gr_isInChain_38 (⟨by rw [gk_inch, h9], rfl⟩)
  | some a =>
    show W _ _ _ _ _ _ _ _ _ _ _ _ _ _ _ (F0 m 5 ls [.ref a])
    obtain ⟨i, hi, e9, hfi⟩ := gk_sel_some h9 (by decide)
    have ha := hk i hi a hfi
    refine lv_astore (lv' := [(4, .ref a), (0, .ref g), (1, .int n), (2, .int d), (3, .int o)]) hx hb d_Gr_isInChain_5 hl (by decide) rfl (fun ls hl => ?_)
    refine lv_aload hx hb d_Gr_isInChain_7 (lv_at hl 0 rfl) ?_
    refine lv_ifnull hx hb d_Gr_isInChain_9 ?_
    refine lv_iload_n hx hb d_Gr_isInChain_12 rfl (lv_at hl 4 rfl) ?_
    refine lv_if_eq (tgt := 24) hx hb d_Gr_isInChain_13 (by decide) (fun c13 => ?_) (fun c13 => ?_)
    · refine lv_aload hx hb d_Gr_isInChain_24 (lv_at hl 0 rfl) ?_
      refine va_get (D := D) (ci := 6) (v := .int ((lk a).2.2.1)) (C := R_Lk) (T := F_Lk) (N := 4) hx hb hts i_Lk hown hK (hv_one hP ha) 0 rfl rfl 2 (by decide) (hts _ k_Gr_46) (fun _ h9 => h9) rfl d_Gr_isInChain_26 ?_
      refine lv_iload_n hx hb d_Gr_isInChain_29 rfl (lv_at hl 3 rfl) ?_
      refine lv_icmp_ne (tgt := 37) hx hb d_Gr_isInChain_30 (by decide) (fun c30 => ?_) (fun c30 => ?_)
      · refine lv_iconst (v := 0) hx hb d_Gr_isInChain_37 (by decide) ?_
        exact hv_zret (v := 0) hQ hx hb hr (by decide) hZ hS hP hlocks d_Gr_isInChain_38 (⟨by simp only [gk_inch, h9]; rw [if_pos c13, if_neg c30], rfl⟩)
      · refine lv_iconst (v := 1) hx hb d_Gr_isInChain_33 (by decide) ?_
        refine lv_goto (tgt := 38) hx hb d_Gr_isInChain_34 (by decide) ?_
        exact hv_zret (v := 1) hQ hx hb hr (by decide) hZ hS hP hlocks d_Gr_isInChain_38 (⟨by simp only [gk_inch, h9]; rw [if_pos c13, if_pos c30], rfl⟩)
    · refine lv_aload hx hb d_Gr_isInChain_16 (lv_at hl 0 rfl) ?_
      refine va_get (D := D) (ci := 6) (v := .int ((lk a).2.1)) (C := R_Lk) (T := F_Lk) (N := 4) hx hb hts i_Lk hown hK (hv_one hP ha) 0 rfl rfl 1 (by decide) (hts _ k_Gr_42) (fun _ h9 => h9) rfl d_Gr_isInChain_18 ?_
      refine lv_goto (tgt := 29) hx hb d_Gr_isInChain_21 (by decide) ?_
      refine lv_iload_n hx hb d_Gr_isInChain_29 rfl (lv_at hl 3 rfl) ?_
      refine lv_icmp_ne (tgt := 37) hx hb d_Gr_isInChain_30 (by decide) (fun c30 => ?_) (fun c30 => ?_)
      · refine lv_iconst (v := 0) hx hb d_Gr_isInChain_37 (by decide) ?_
        exact hv_zret (v := 0) hQ hx hb hr (by decide) hZ hS hP hlocks d_Gr_isInChain_38 (⟨by simp only [gk_inch, h9]; rw [if_neg c13, if_neg c30], rfl⟩)
      · refine lv_iconst (v := 1) hx hb d_Gr_isInChain_33 (by decide) ?_
        refine lv_goto (tgt := 38) hx hb d_Gr_isInChain_34 (by decide) ?_
        exact hv_zret (v := 1) hQ hx hb hr (by decide) hZ hS hP hlocks d_Gr_isInChain_38 (⟨by simp only [gk_inch, h9]; rw [if_neg c13, if_pos c30], rfl⟩)

abbrev rm_Gr_countChain : Room := { frames := 2, cells := 0, slots := 0, locals := 45 }
set_option maxHeartbeats 4000000 in
set_option maxRecDepth 100000 in
/-- countChain(d, out) -/
theorem c_Gr_countChain {l : Launch} {s0 : State} {D : va_G} {ca : Nat → ClassId} (C : hv_C l s0 D (hv_tys ca)) {w : hv_W} {g na la : Nat} {fL : Nat → Option Nat} {lk : Nat → Nat × Int32 × Int32 × Int32} (d o : Int32) (h0 : w g = some (.inr (1, [.ref na, .ref la]))) (hL : w la = some (.inl (ca 6, 96, .inr (.inr (.inr (.inr fL)))))) (hk : ∀ i, i < 96 → ∀ a, fL i = some a → w a = some (.inr (6, [.ref (lk a).1, .int (lk a).2.1, .int (lk a).2.2.1, .int (lk a).2.2.2])))  :
    hv_Met l y_Gr_countChain [.code y_Gr_countChain b_Gr_countChain 5 (some .int)] rm_Gr_countChain (hv_Pc s0 D w [.ref g, .int d, .int o]) (hv_Q s0 D (fun v w' => v = some (.int (nI (gk_cch fL lk d o 96))) ∧ w' = w) (fun _ _ => False)) 0 0 (hv_A s0.heap.size) := by
  refine hv_enter C _ (by decide) (Nat.le_of_ble_eq_true rfl) ?_
  intro p e s m below meth c ls Q hQ hx hb hr hml hown hts hK hZ hlocks hname hout htr hP hl
  have hown : s.vm.findClass R_Gr = some m.cls := hown
  have hS : va_S (hv_A s0.heap.size) s.heap s.heap [] := va_S.rf
  have hl : lv_has ls 5 [(0, .ref g), (1, .int d), (2, .int o)] := hl
  refine lv_iconst (v := 0) hx hb d_Gr_countChain_0 (by decide) ?_
  refine lv_istore_n (lv' := [(3, .int 0), (0, .ref g), (1, .int d), (2, .int o)]) hx hb d_Gr_countChain_1 rfl hl (by decide) rfl (fun ls hl => ?_)
  refine lv_iconst (v := 0) hx hb d_Gr_countChain_2 (by decide) ?_
  refine lv_istore (lv' := [(4, .int 0), (3, .int 0), (0, .ref g), (1, .int d), (2, .int o)]) hx hb d_Gr_countChain_3 hl (by decide) rfl (fun ls hl => ?_)
  have lp : ∀ (n9 : Nat) (i : Nat), 96 - i < n9 → (i ≤ 96) → ∀ (H : Heap) (locs : List Loc) (ls : Array Slot), hv_P D classes s0.heap.size w H → va_S (hv_A s0.heap.size) s.heap H locs → lv_has ls 5 [(0, .ref g), (1, .int d), (2, .int o), (3, .int (nI (gk_cch fL lk d o i))), (4, .int (nI i))] → W p l e rm_Gr_countChain s m ([.ref g, .int d, .int o] : List Value).toArray below meth c H locs 0 0 Q (F0 m 5 ls []) := by
    intro n9
    induction n9 with
    | zero =>
      intro i hn9
      exact absurd hn9 (Nat.not_lt_zero _)
    | succ n9 ih =>
      intro i hn9 hi H locs ls hP hS hl
      refine lv_iload hx hb d_Gr_countChain_5 (lv_at hl 4 rfl) ?_
      refine lv_aload_n hx hb d_Gr_countChain_7 rfl (lv_at hl 0 rfl) ?_
      refine va_get (D := D) (ci := 1) (v := .ref la) (C := R_Gr) (T := F_Gr) (N := 2) hx hb hts i_Gr hown hK (hv_one hP h0) 0 rfl rfl 1 (by decide) (hts _ k_Gr_19) (fun _ h9 => h9) rfl d_Gr_countChain_8 ?_
      refine va_alen (v := nI 96) hx hb hK (hv_one hP hL) 0 6 rfl rfl rfl d_Gr_countChain_11 ?_
      refine lv_icmp_ge (tgt := 40) hx hb d_Gr_countChain_12 (by decide) (fun c12 => ?_) (fun c12 => ?_)
      · have hi2 : i = 96 := Nat.le_antisymm hi (gk_ge c12 (by decide) (by omega))
        refine lv_iload_n hx hb d_Gr_countChain_40 rfl (lv_at hl 3 rfl) ?_
        exact hv_iret (v := nI (gk_cch fL lk d o i)) hQ hx hb hr hZ hS hP hlocks d_Gr_countChain_41 (⟨by rw [hi2], rfl⟩)
      · have hlt : i < 96 := gk_lt c12 (by decide) (by omega)
        refine lv_iload_n hx hb d_Gr_countChain_15 rfl (lv_at hl 3 rfl) ?_
        refine lv_aload_n hx hb d_Gr_countChain_16 rfl (lv_at hl 0 rfl) ?_
        refine lv_iload hx hb d_Gr_countChain_17 (lv_at hl 4 rfl) ?_
        refine lv_iload_n hx hb d_Gr_countChain_19 rfl (lv_at hl 1 rfl) ?_
        refine lv_iload_n hx hb d_Gr_countChain_20 rfl (lv_at hl 2 rfl) ?_
        refine hv_call (hv_runV (As := [.int (nI i), .int d, .int o]) (rest := [.int (nI (gk_cch fL lk d o i))]) (c_Gr_isInChain C (nI i) d o h0 hL hk) (hv_cw C hZ kc_Gr_isInChain kn_Gr ⟨rfl, rfl, Nat.le_of_ble_eq_true rfl, Nat.le_of_ble_eq_true rfl⟩) hv_blind (hv_pre hZ hS hP) hx hml hb hown (hts _ k_Gr_59) (hts _ ki_Gr_isInChain) (hts _ ksel_Gr_Gr_isInChain) hy_Gr_isInChain (hts _ kc_Gr_isInChain) (va_recv hK (hv_one hP h0) (ci := 1) (q0 := 0) rfl rfl) rfl hl.1 rfl (lv_room (Nat.le_of_ble_eq_true rfl)) d_Gr_countChain_21 ⟨Nat.le_of_ble_eq_true rfl, Nat.le_of_ble_eq_true rfl⟩) hZ hS (fun v9 w1 H locs q2 hP hS => ?_) (fun x9 w1 H locs q2 hP hS => q2.elim)
        obtain ⟨hv9, hw9⟩ := q2
        subst hv9
        rw [hw9] at hP
        show W _ _ _ _ _ _ _ _ _ _ _ _ _ _ _ (F0 m 24 ls [.int (gk_inch fL lk (nI i) d o), .int (nI (gk_cch fL lk d o i))])
        refine lv_if_eq (tgt := 31) hx hb d_Gr_countChain_24 (by decide) (fun c24 => ?_) (fun c24 => ?_)
        · refine lv_iconst (v := 0) hx hb d_Gr_countChain_31 (by decide) ?_
          refine lv_iadd hx hb d_Gr_countChain_32 ?_
          refine lv_topi (fun v9 e9 => ?_)
          have e9 : v9 = nI (gk_cch fL lk d o (i + 1)) := e9.trans (gk_cch_n c24)
          subst e9
          show W _ _ _ _ _ _ _ _ _ _ _ _ _ _ _ (F0 m 33 ls [.int (nI (gk_cch fL lk d o (i + 1)))])
          refine lv_istore_n (lv' := [(3, .int (nI (gk_cch fL lk d o (i + 1)))), (0, .ref g), (1, .int d), (2, .int o), (4, .int (nI i))]) hx hb d_Gr_countChain_33 rfl hl (by decide) rfl (fun ls hl => ?_)
          refine lv_iinc (v := (nI (i + 1))) (lv' := [(4, .int ((nI (i + 1)))), (3, .int (nI (gk_cch fL lk d o (i + 1)))), (0, .ref g), (1, .int d), (2, .int o)]) hx hb d_Gr_countChain_34 hl (k := 4) rfl (nI_1 i) (by decide) rfl (fun ls hl => ?_)
          refine lv_goto (tgt := 5) hx hb d_Gr_countChain_37 (by decide) ?_
          exact ih (i + 1) (by omega) hlt _ _ _ hP hS (lv_sub hl [2, 3, 4, 1, 0] rfl)
        · refine lv_iconst (v := 1) hx hb d_Gr_countChain_27 (by decide) ?_
          refine lv_goto (tgt := 32) hx hb d_Gr_countChain_28 (by decide) ?_
          refine lv_iadd hx hb d_Gr_countChain_32 ?_
          refine lv_topi (fun v9 e9 => ?_)
          have e9 : v9 = nI (gk_cch fL lk d o (i + 1)) := e9.trans (gk_cch_s c24)
          subst e9
          show W _ _ _ _ _ _ _ _ _ _ _ _ _ _ _ (F0 m 33 ls [.int (nI (gk_cch fL lk d o (i + 1)))])
          refine lv_istore_n (lv' := [(3, .int (nI (gk_cch fL lk d o (i + 1)))), (0, .ref g), (1, .int d), (2, .int o), (4, .int (nI i))]) hx hb d_Gr_countChain_33 rfl hl (by decide) rfl (fun ls hl => ?_)
          refine lv_iinc (v := (nI (i + 1))) (lv' := [(4, .int ((nI (i + 1)))), (3, .int (nI (gk_cch fL lk d o (i + 1)))), (0, .ref g), (1, .int d), (2, .int o)]) hx hb d_Gr_countChain_34 hl (k := 4) rfl (nI_1 i) (by decide) rfl (fun ls hl => ?_)
          refine lv_goto (tgt := 5) hx hb d_Gr_countChain_37 (by decide) ?_
          exact ih (i + 1) (by omega) hlt _ _ _ hP hS (lv_sub hl [2, 3, 4, 1, 0] rfl)
  exact lp _ 0 (Nat.lt_succ_self _) (Nat.zero_le _) _ _ _ hP hS (lv_sub hl [2, 3, 4, 1, 0] rfl)

abbrev rm_Gr_linkInChain : Room := { frames := 2, cells := 0, slots := 0, locals := 45 }
set_option maxHeartbeats 4000000 in
set_option maxRecDepth 100000 in
/-- linkInChain(d, out, k) -/
theorem c_Gr_linkInChain {l : Launch} {s0 : State} {D : va_G} {ca : Nat → ClassId} (C : hv_C l s0 D (hv_tys ca)) {w : hv_W} {g na la : Nat} {fL : Nat → Option Nat} {lk : Nat → Nat × Int32 × Int32 × Int32} (d o k : Int32) (h0 : w g = some (.inr (1, [.ref na, .ref la]))) (hL : w la = some (.inl (ca 6, 96, .inr (.inr (.inr (.inr fL)))))) (hk : ∀ i, i < 96 → ∀ a, fL i = some a → w a = some (.inr (6, [.ref (lk a).1, .int (lk a).2.1, .int (lk a).2.2.1, .int (lk a).2.2.2])))  :
    hv_Met l y_Gr_linkInChain [.code y_Gr_linkInChain b_Gr_linkInChain 6 (some .int)] rm_Gr_linkInChain (hv_Pc s0 D w [.ref g, .int d, .int o, .int k]) (hv_Q s0 D (fun v w' => (∃ r : Int32, v = some (.int r) ∧ gk_kth fL lk d o k r) ∧ w' = w) (fun _ _ => False)) 0 0 (hv_A s0.heap.size) := by
  refine hv_enter C _ (by decide) (Nat.le_of_ble_eq_true rfl) ?_
  intro p e s m below meth c ls Q hQ hx hb hr hml hown hts hK hZ hlocks hname hout htr hP hl
  have hown : s.vm.findClass R_Gr = some m.cls := hown
  have hS : va_S (hv_A s0.heap.size) s.heap s.heap [] := va_S.rf
  have hl : lv_has ls 6 [(0, .ref g), (1, .int d), (2, .int o), (3, .int k)] := hl
  refine lv_iconst (v := 0) hx hb d_Gr_linkInChain_0 (by decide) ?_
  refine lv_istore (lv' := [(4, .int 0), (0, .ref g), (1, .int d), (2, .int o), (3, .int k)]) hx hb d_Gr_linkInChain_1 hl (by decide) rfl (fun ls hl => ?_)
  refine lv_iconst (v := 0) hx hb d_Gr_linkInChain_3 (by decide) ?_
  refine lv_istore (lv' := [(5, .int 0), (4, .int 0), (0, .ref g), (1, .int d), (2, .int o), (3, .int k)]) hx hb d_Gr_linkInChain_4 hl (by decide) rfl (fun ls hl => ?_)
  have lp : ∀ (n9 : Nat) (i : Nat), 96 - i < n9 → (i ≤ 96) → (∀ j, j < i → ¬ gk_inch fL lk (nI j) d o = 0 → ¬ nI (gk_cch fL lk d o j) = k) → ∀ (H : Heap) (locs : List Loc) (ls : Array Slot), hv_P D classes s0.heap.size w H → va_S (hv_A s0.heap.size) s.heap H locs → lv_has ls 6 [(0, .ref g), (1, .int d), (2, .int o), (3, .int k), (4, .int (nI (gk_cch fL lk d o i))), (5, .int (nI i))] → W p l e rm_Gr_linkInChain s m ([.ref g, .int d, .int o, .int k] : List Value).toArray below meth c H locs 0 0 Q (F0 m 6 ls []) := by
    intro n9
    induction n9 with
    | zero =>
      intro i hn9
      exact absurd hn9 (Nat.not_lt_zero _)
    | succ n9 ih =>
      intro i hn9 hi hj H locs ls hP hS hl
      refine lv_iload hx hb d_Gr_linkInChain_6 (lv_at hl 5 rfl) ?_
      refine lv_aload_n hx hb d_Gr_linkInChain_8 rfl (lv_at hl 0 rfl) ?_
      refine va_get (D := D) (ci := 1) (v := .ref la) (C := R_Gr) (T := F_Gr) (N := 2) hx hb hts i_Gr hown hK (hv_one hP h0) 0 rfl rfl 1 (by decide) (hts _ k_Gr_19) (fun _ h9 => h9) rfl d_Gr_linkInChain_9 ?_
      refine va_alen (v := nI 96) hx hb hK (hv_one hP hL) 0 6 rfl rfl rfl d_Gr_linkInChain_12 ?_
      refine lv_icmp_ge (tgt := 45) hx hb d_Gr_linkInChain_13 (by decide) (fun c13 => ?_) (fun c13 => ?_)
      · have hi2 : i = 96 := Nat.le_antisymm hi (gk_ge c13 (by decide) (by omega))
        refine lv_iconst (v := (-1)) hx hb d_Gr_linkInChain_45 (by decide) ?_
        exact hv_iret (v := (-1)) hQ hx hb hr hZ hS hP hlocks d_Gr_linkInChain_46 (⟨⟨_, rfl, Or.inr ⟨rfl, by rw [← hi2]; exact hj⟩⟩, rfl⟩)
      · have hlt : i < 96 := gk_lt c13 (by decide) (by omega)
        refine lv_aload_n hx hb d_Gr_linkInChain_16 rfl (lv_at hl 0 rfl) ?_
        refine lv_iload hx hb d_Gr_linkInChain_17 (lv_at hl 5 rfl) ?_
        refine lv_iload_n hx hb d_Gr_linkInChain_19 rfl (lv_at hl 1 rfl) ?_
        refine lv_iload_n hx hb d_Gr_linkInChain_20 rfl (lv_at hl 2 rfl) ?_
        refine hv_call (hv_runV (As := [.int (nI i), .int d, .int o]) (rest := []) (c_Gr_isInChain C (nI i) d o h0 hL hk) (hv_cw C hZ kc_Gr_isInChain kn_Gr ⟨rfl, rfl, Nat.le_of_ble_eq_true rfl, Nat.le_of_ble_eq_true rfl⟩) hv_blind (hv_pre hZ hS hP) hx hml hb hown (hts _ k_Gr_59) (hts _ ki_Gr_isInChain) (hts _ ksel_Gr_Gr_isInChain) hy_Gr_isInChain (hts _ kc_Gr_isInChain) (va_recv hK (hv_one hP h0) (ci := 1) (q0 := 0) rfl rfl) rfl hl.1 rfl (lv_room (Nat.le_of_ble_eq_true rfl)) d_Gr_linkInChain_21 ⟨Nat.le_of_ble_eq_true rfl, Nat.le_of_ble_eq_true rfl⟩) hZ hS (fun v9 w1 H locs q2 hP hS => ?_) (fun x9 w1 H locs q2 hP hS => q2.elim)
        obtain ⟨hv9, hw9⟩ := q2
        subst hv9
        rw [hw9] at hP
        show W _ _ _ _ _ _ _ _ _ _ _ _ _ _ _ (F0 m 24 ls [.int (gk_inch fL lk (nI i) d o)])
        refine lv_if_eq (tgt := 39) hx hb d_Gr_linkInChain_24 (by decide) (fun c24 => ?_) (fun c24 => ?_)
        · rw [show (nI (gk_cch fL lk d o i) : Int32) = nI (gk_cch fL lk d o (i + 1)) from gk_cch_n0 c24] at hl
          refine lv_iinc (v := (nI (i + 1))) (lv' := [(5, .int ((nI (i + 1)))), (0, .ref g), (1, .int d), (2, .int o), (3, .int k), (4, .int (nI (gk_cch fL lk d o (i + 1))))]) hx hb d_Gr_linkInChain_39 hl (k := 5) rfl (nI_1 i) (by decide) rfl (fun ls hl => ?_)
          refine lv_goto (tgt := 6) hx hb d_Gr_linkInChain_42 (by decide) ?_
          exact ih (i + 1) (by omega) hlt (gk_kth_n hj c24) _ _ _ hP hS (lv_sub hl [1, 2, 3, 4, 5, 0] rfl)
        · refine lv_iload hx hb d_Gr_linkInChain_27 (lv_at hl 4 rfl) ?_
          refine lv_iload_n hx hb d_Gr_linkInChain_29 rfl (lv_at hl 3 rfl) ?_
          refine lv_icmp_ne (tgt := 36) hx hb d_Gr_linkInChain_30 (by decide) (fun c30 => ?_) (fun c30 => ?_)
          · refine lv_iinc (v := (nI (gk_cch fL lk d o i) + 1)) (lv' := [(4, .int ((nI (gk_cch fL lk d o i) + 1))), (0, .ref g), (1, .int d), (2, .int o), (3, .int k), (5, .int (nI i))]) hx hb d_Gr_linkInChain_36 hl (k := 4) rfl rfl (by decide) rfl (fun ls hl => ?_)
            rw [show ((nI (gk_cch fL lk d o i) + 1) : Int32) = nI (gk_cch fL lk d o (i + 1)) from gk_cch_s c24] at hl
            refine lv_iinc (v := (nI (i + 1))) (lv' := [(5, .int ((nI (i + 1)))), (4, .int (nI (gk_cch fL lk d o (i + 1)))), (0, .ref g), (1, .int d), (2, .int o), (3, .int k)]) hx hb d_Gr_linkInChain_39 hl (k := 5) rfl (nI_1 i) (by decide) rfl (fun ls hl => ?_)
            refine lv_goto (tgt := 6) hx hb d_Gr_linkInChain_42 (by decide) ?_
            exact ih (i + 1) (by omega) hlt (gk_kth_s hj c24 c30) _ _ _ hP hS (lv_sub hl [2, 3, 4, 5, 1, 0] rfl)
          · refine lv_iload hx hb d_Gr_linkInChain_33 (lv_at hl 5 rfl) ?_
            exact hv_iret (v := nI i) hQ hx hb hr hZ hS hP hlocks d_Gr_linkInChain_35 (⟨⟨_, rfl, Or.inl ⟨i, hlt, rfl, c24, c30.symm, hj⟩⟩, rfl⟩)
  exact lp _ 0 (Nat.lt_succ_self _) (Nat.zero_le _) (fun j q => absurd q (Nat.not_lt_zero _)) _ _ _ hP hS (lv_sub hl [2, 3, 4, 5, 1, 0] rfl)

