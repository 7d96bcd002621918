abbrev rm_GK_value : Room := { frames := 6, cells := 1, slots := 6, locals := 82 }
set_option maxHeartbeats 4000000 in
set_option maxRecDepth 100000 in
theorem c_GK_value {l : Launch} {s0 : State} {D : va_G} {ca : Nat → ClassId} (C : hv_C l s0 D (hv_tys ca)) {w : hv_W} (N : hv_N s0) {L : Nat → Nat} {w0 : hv_W} {σ : gS} {P : cT} (k n y wh : Int32) (hM : cK ca L w0 σ P w) (hR : cR ca L σ P w) (hW : gW σ)  :
    hv_Met l y_GK_value [.code y_GK_value b_GK_value 7 (some .long)] rm_GK_value (hv_Pc s0 D w [.ref (L 0), .int k, .int n, .int y, .int wh]) (hv_Q s0 D (fun v w' => (x_value σ k n y wh).1 = 0 ∧ v = some (.long (x_value σ k n y wh).2) ∧ w' = w) (fun x w' => (x_value σ k n y wh).1 = 1 ∧ cThr ca L w0 10 σ x w')) 1 6 (hv_A s0.heap.size) := by
  refine hv_enter C _ (by decide) (Nat.le_of_ble_eq_true rfl) ?_
  intro p e s m below meth c ls Q hQ hx hb hr hml hown hts hK hZ hlocks hname hout htr hP hl
  have hown : s.vm.findClass R_GK = some m.cls := hown
  have hS : va_S (hv_A s0.heap.size) s.heap s.heap [] := va_S.rf
  have hl : lv_has ls 7 [(0, .ref (L 0)), (1, .int k), (2, .int n), (3, .int y), (4, .int wh)] := hl
  refine lv_aload_n hx hb d_GK_value_0 rfl (lv_at hl 0 rfl) ?_
  have h1 : w (L 0) = some (.inr (0, [.ref (L 1), .ref (L 2), .ref (L 3), .ref (L 4), .ref (L 5), .ref (L 6), .ref (L 7), .int (σ.err), .int (nI (σ.sc)), .int (nI (σ.ec)), .int (σ.ins), .int (σ.off)])) := hM.1.2 0 (by decide)
  refine va_get (D := D) (ci := 0) (v := .ref (L 1)) (C := R_GK) (T := F_GK) (N := 12) hx hb hts i_GK hown hK (hv_one hP h1) 0 rfl rfl 0 (by decide) (hts _ k_GK_10) (fun _ h9 => h9) rfl d_GK_value_1 ?_
  refine lv_iload_n hx hb d_GK_value_4 rfl (lv_at hl 1 rfl) ?_
  refine lv_iload_n hx hb d_GK_value_5 rfl (lv_at hl 2 rfl) ?_
  have h2 : w (L 1) = some (.inr (1, [.ref (L 8), .ref (L 9)])) := hM.1.2 1 (by decide)
  have h3 : w (L 8) = some (.inl (ca 5, 64, .inr (.inr (.inr (.inr P.nN))))) := hM.1.2 8 (by decide)
  have h4 : w (L 9) = some (.inl (ca 6, 96, .inr (.inr (.inr (.inr P.nL))))) := hM.1.2 9 (by decide)
  refine hv_call (hv_runV (As := [.int k, .int n]) (rest := []) (c_Gr_thingAt C k n h2 h3 h4) (hv_cw C hZ kc_Gr_thingAt kn_Gr ⟨rfl, rfl, Nat.le_of_ble_eq_true rfl, Nat.le_of_ble_eq_true rfl⟩) hv_blind (hv_pre hZ hS hP) hx hml hb hown (hts _ k_GK_199) (hts _ ki_Gr_thingAt) (hts _ ksel_Gr_Gr_thingAt) hy_Gr_thingAt (hts _ kc_Gr_thingAt) (va_recv hK (hv_one hP h2) (ci := 1) (q0 := 0) rfl rfl) rfl hl.1 rfl (lv_room (Nat.le_of_ble_eq_true rfl)) d_GK_value_6 ⟨Nat.le_of_ble_eq_true rfl, Nat.le_of_ble_eq_true rfl⟩) hZ hS (fun v9 w5 H locs q6 hP hS => ?_) (fun x9 w5 H locs q6 hP hS => q6.elim)
  obtain ⟨hv9, hw9⟩ := q6
  subst hv9
  rw [hw9] at hP
  show W _ _ _ _ _ _ _ _ _ _ _ _ _ _ _ (F0 m 9 ls [va_rf (gk_thing P.nN P.nL k n)])
  cases h9o : gk_thing P.nN P.nL k n with
  | none =>
    show W _ _ _ _ _ _ _ _ _ _ _ _ _ _ _ (F0 m 9 ls [.null])
    refine lv_astoreN (lv' := [(5, .null), (0, .ref (L 0)), (1, .int k), (2, .int n), (3, .int y), (4, .int wh)]) hx hb d_GK_value_9 hl (by decide) rfl (fun ls hl => ?_)
    refine lv_aloadN hx hb d_GK_value_11 (lv_at hl 0 rfl) ?_
    refine lv_ifnonnullN hx hb d_GK_value_13 ?_
    exact hv_throwNE C N 2 kstr_225 hx hb htr hown hK hZ hS hP (hl.1.trans hml.symm) d_GK_value_16 d_GK_value_19 (Or.inl ⟨rfl, d_GK_value_20⟩) d_GK_value_22 d_GK_value_25 hout hlocks (Nat.le_of_ble_eq_true rfl) (Nat.le_of_ble_eq_true rfl) (Nat.le_of_ble_eq_true rfl) (Nat.le_of_ble_eq_true rfl) hQ (fun x9 hx9 => ⟨by rw [x_value, gk_thing_none hR.1 h9o], cThr.of hM hR hx9⟩)
  | some a =>
    show W _ _ _ _ _ _ _ _ _ _ _ _ _ _ _ (F0 m 9 ls [.ref a])
    rcases (gk_thing_someE hR.1 h9o) with ⟨hk4, hs⟩ | ⟨hk4, hs⟩
    · subst hk4
      obtain ⟨i, t, hi, he, ha, ht, hf, -⟩ := gk_sel_someN hR.1 hs
      subst he
      have hwt := hW.t (by omega) ht
      have hpl : t.ps.length ≤ 6 := hwt.2.2.1
      obtain ⟨hma, pa, lb, h0, hls, hps⟩ := cG_nodeAt hR.1 hi ha ht
      show W _ _ _ _ _ _ _ _ _ _ _ _ _ _ _ (F0 m 9 ls [.ref a])
      refine lv_astore (lv' := [(5, .ref a), (0, .ref (L 0)), (1, .int 4), (2, .int (nI i)), (3, .int y), (4, .int wh)]) hx hb d_GK_value_9 hl (by decide) rfl (fun ls hl => ?_)
      refine lv_aload hx hb d_GK_value_11 (lv_at hl 0 rfl) ?_
      refine lv_ifnonnull (tgt := 26) hx hb d_GK_value_13 (by decide) ?_
      refine lv_aload hx hb d_GK_value_26 (lv_at hl 0 rfl) ?_
      refine lv_iload_n hx hb d_GK_value_28 rfl (lv_at hl 4 rfl) ?_
      refine hv_call (hv_runV (As := [.int y]) (rest := []) (c_Th_propertyOfN C y h0 hps hpl) (hv_cw C hZ kc_Th_propertyOf kn_Th ⟨rfl, rfl, Nat.le_of_ble_eq_true rfl, Nat.le_of_ble_eq_true rfl⟩) hv_blind (hv_pre hZ hS hP) hx hml hb hown (hts _ k_GK_228) (hts _ ki_Th_propertyOf) (hts _ ksel_Nd_Th_propertyOf) hy_Th_propertyOf (hts _ kc_Th_propertyOf) (va_recv hK (hv_one hP h0) (ci := 5) (q0 := 0) rfl rfl) rfl hl.1 rfl (lv_room (Nat.le_of_ble_eq_true rfl)) d_GK_value_29 ⟨Nat.le_of_ble_eq_true rfl, Nat.le_of_ble_eq_true rfl⟩) hZ hS (fun v9 w7 H locs q8 hP hS => ?_) (fun x9 w7 H locs q8 hP hS => q8.elim)
      obtain ⟨⟨r, hv9, hlk⟩, hw9⟩ := q8
      subst hv9
      rw [hw9] at hP
      show W _ _ _ _ _ _ _ _ _ _ _ _ _ _ _ (F0 m 32 ls [va_rf r])
      cases h9o : r with
      | none =>
        show W _ _ _ _ _ _ _ _ _ _ _ _ _ _ _ (F0 m 32 ls [.null])
        have hlo := g_lookq_none hlk h9o
        refine lv_astoreN (lv' := [(6, .null), (5, .ref a), (0, .ref (L 0)), (1, .int 4), (2, .int (nI i)), (3, .int y), (4, .int wh)]) hx hb d_GK_value_32 hl (by decide) rfl (fun ls hl => ?_)
        refine lv_iload hx hb d_GK_value_34 (lv_at hl 6 rfl) ?_
        refine lv_iconst (v := (-1)) hx hb d_GK_value_36 (by decide) ?_
        refine lv_icmp_ne (tgt := 56) hx hb d_GK_value_37 (by decide) (fun c37 => ?_) (fun c37 => ?_)
        · refine lv_aloadN hx hb d_GK_value_56 (lv_at hl 0 rfl) ?_
          refine lv_ifnonnullN hx hb d_GK_value_58 ?_
          exact hv_throwNE C N 2 kstr_235 hx hb htr hown hK hZ hS hP (hl.1.trans hml.symm) d_GK_value_61 d_GK_value_64 (Or.inl ⟨rfl, d_GK_value_65⟩) d_GK_value_67 d_GK_value_70 hout hlocks (Nat.le_of_ble_eq_true rfl) (Nat.le_of_ble_eq_true rfl) (Nat.le_of_ble_eq_true rfl) (Nat.le_of_ble_eq_true rfl) hQ (fun x9 hx9 => ⟨by rw [x_value, hf]; dsimp only; rw [hlo]; dsimp only; rw [if_neg c37], cThr.of hM hR hx9⟩)
        · refine lv_aloadN hx hb d_GK_value_40 (lv_at hl 0 rfl) ?_
          refine lv_ifnonnullN hx hb d_GK_value_42 ?_
          refine lv_lconst (v := 0) hx hb d_GK_value_45 (by decide) ?_
          refine lv_goto (tgt := 55) hx hb d_GK_value_46 (by decide) ?_
          refine W.widen (k := 1) (n := 6) (by omega) (by omega) ?_
          exact hv_lret (v := 0) hQ hx hb hr hZ hS hP hlocks d_GK_value_55 (⟨by rw [x_value, hf]; dsimp only; rw [hlo]; dsimp only; rw [if_pos c37], by rw [x_value, hf]; dsimp only; rw [hlo]; dsimp only; rw [if_pos c37], rfl⟩)
      | some qo =>
        show W _ _ _ _ _ _ _ _ _ _ _ _ _ _ _ (F0 m 32 ls [.ref qo])
        obtain ⟨po, hlo, hqo⟩ := g_lookq_some hlk h9o
        obtain ⟨hqm, tq, hq2, htm, tf, ht2, hte⟩ := id hqo
        have hl24 : po.2.2.2.length ≤ 24 := (hwt.2.2.2.2 po (g_look_mem hlo)).1
        refine lv_astore (lv' := [(6, .ref qo), (5, .ref a), (0, .ref (L 0)), (1, .int 4), (2, .int (nI i)), (3, .int y), (4, .int wh)]) hx hb d_GK_value_32 hl (by decide) rfl (fun ls hl => ?_)
        refine lv_iload hx hb d_GK_value_34 (lv_at hl 6 rfl) ?_
        refine lv_iconst (v := (-1)) hx hb d_GK_value_36 (by decide) ?_
        refine lv_icmp_ne (tgt := 56) hx hb d_GK_value_37 (by decide) (fun c37 => ?_) (fun c37 => ?_)
        · refine lv_aload hx hb d_GK_value_56 (lv_at hl 0 rfl) ?_
          refine lv_ifnonnull (tgt := 71) hx hb d_GK_value_58 (by decide) ?_
          refine lv_iload hx hb d_GK_value_71 (lv_at hl 6 rfl) ?_
          refine lv_bipush (v := (-2)) hx hb d_GK_value_73 (by decide) ?_
          refine lv_icmp_ne (tgt := 84) hx hb d_GK_value_75 (by decide) (fun c75 => ?_) (fun c75 => ?_)
          · refine lv_iload hx hb d_GK_value_84 (lv_at hl 6 rfl) ?_
            refine lv_if_lt (tgt := 100) hx hb d_GK_value_86 (by decide) (fun c86 => ?_) (fun c86 => ?_)
            · exact hv_throwNE C N 2 kstr_245 hx hb htr hown hK hZ hS hP (hl.1.trans hml.symm) d_GK_value_100 d_GK_value_103 (Or.inl ⟨rfl, d_GK_value_104⟩) d_GK_value_106 d_GK_value_109 hout hlocks (Nat.le_of_ble_eq_true rfl) (Nat.le_of_ble_eq_true rfl) (Nat.le_of_ble_eq_true rfl) (Nat.le_of_ble_eq_true rfl) hQ (fun x9 hx9 => ⟨by rw [x_value, hf]; dsimp only; rw [hlo]; dsimp only; rw [x_val, if_neg c37, if_neg c75, if_pos (Or.inl c86)], cThr.of hM hR hx9⟩)
            · refine lv_iload hx hb d_GK_value_89 (lv_at hl 6 rfl) ?_
              refine lv_aload hx hb d_GK_value_91 (lv_at hl 0 rfl) ?_
              refine va_get (D := D) (ci := 4) (v := .ref tq) (C := R_Pr) (T := F_Pr) (N := 4) hx hb hts i_Pr hown hK (hv_one hP hq2) 0 rfl rfl 3 (by decide) (hts _ k_GK_241) (fun _ h9 => h9) rfl d_GK_value_93 ?_
              refine va_alen (v := nI po.2.2.2.length) hx hb hK (hv_one hP ht2) 0 1 rfl rfl rfl d_GK_value_96 ?_
              refine lv_icmp_lt (tgt := 110) hx hb d_GK_value_97 (by decide) (fun c97 => ?_) (fun c97 => ?_)
              · refine lv_aload hx hb d_GK_value_110 (lv_at hl 0 rfl) ?_
                refine va_get (D := D) (ci := 4) (v := .ref tq) (C := R_Pr) (T := F_Pr) (N := 4) hx hb hts i_Pr hown hK (hv_one hP hq2) 0 rfl rfl 3 (by decide) (hts _ k_GK_241) (fun _ h9 => h9) rfl d_GK_value_112 ?_
                refine lv_iload hx hb d_GK_value_115 (lv_at hl 6 rfl) ?_
                refine va_bald hx hb hK (hv_one hP ht2) 0 1 rfl rfl (gk_in c86 (fun z9 => absurd c97 (Int32.not_lt.mpr z9)) (by omega)) d_GK_value_117 ?_
                refine lv_i2l (v := (tf wh.toNatClampNeg).toInt64) hx hb d_GK_value_118 rfl ?_
                refine W.widen (k := 1) (n := 6) (by omega) (by omega) ?_
                exact hv_lret (v := (tf wh.toNatClampNeg).toInt64) hQ hx hb hr hZ hS hP hlocks d_GK_value_119 (⟨by rw [x_value, hf]; dsimp only; rw [hlo]; dsimp only; rw [x_val, if_neg c37, if_neg c75, if_neg (fun z9 => z9.elim c86 (fun z8 => absurd c97 (Int32.not_lt.mpr z8)))], by rw [x_value, hf]; dsimp only; rw [hlo]; dsimp only; rw [x_val, if_neg c37, if_neg c75, if_neg (fun z9 => z9.elim c86 (fun z8 => absurd c97 (Int32.not_lt.mpr z8))), hte _ (gk_lt97 c86 c97 (by omega))], rfl⟩)
              · exact hv_throwNE C N 2 kstr_245 hx hb htr hown hK hZ hS hP (hl.1.trans hml.symm) d_GK_value_100 d_GK_value_103 (Or.inl ⟨rfl, d_GK_value_104⟩) d_GK_value_106 d_GK_value_109 hout hlocks (Nat.le_of_ble_eq_true rfl) (Nat.le_of_ble_eq_true rfl) (Nat.le_of_ble_eq_true rfl) (Nat.le_of_ble_eq_true rfl) hQ (fun x9 hx9 => ⟨by rw [x_value, hf]; dsimp only; rw [hlo]; dsimp only; rw [x_val, if_neg c37, if_neg c75, if_pos (Or.inr (Int32.not_lt.mp c97))], cThr.of hM hR hx9⟩)
          · refine lv_aload hx hb d_GK_value_78 (lv_at hl 0 rfl) ?_
            refine va_get (D := D) (ci := 4) (v := .long po.2.2.1) (C := R_Pr) (T := F_Pr) (N := 4) hx hb hts i_Pr hown hK (hv_one hP hq2) 0 rfl rfl 2 (by decide) (hts _ k_GK_237) (fun _ h9 => h9) rfl d_GK_value_80 ?_
            refine W.widen (k := 1) (n := 6) (by omega) (by omega) ?_
            exact hv_lret (v := po.2.2.1) hQ hx hb hr hZ hS hP hlocks d_GK_value_83 (⟨by rw [x_value, hf]; dsimp only; rw [hlo]; dsimp only; rw [x_val, if_neg c37, if_pos c75], by rw [x_value, hf]; dsimp only; rw [hlo]; dsimp only; rw [x_val, if_neg c37, if_pos c75], rfl⟩)
        · refine lv_aload hx hb d_GK_value_40 (lv_at hl 0 rfl) ?_
          refine lv_ifnonnull (tgt := 49) hx hb d_GK_value_42 (by decide) ?_
          refine lv_aload hx hb d_GK_value_49 (lv_at hl 0 rfl) ?_
          refine va_get (D := D) (ci := 4) (v := .int po.2.1) (C := R_Pr) (T := F_Pr) (N := 4) hx hb hts i_Pr hown hK (hv_one hP hq2) 0 rfl rfl 1 (by decide) (hts _ k_GK_232) (fun _ h9 => h9) rfl d_GK_value_51 ?_
          refine lv_i2l (v := po.2.1.toInt64) hx hb d_GK_value_54 rfl ?_
          refine W.widen (k := 1) (n := 6) (by omega) (by omega) ?_
          exact hv_lret (v := po.2.1.toInt64) hQ hx hb hr hZ hS hP hlocks d_GK_value_55 (⟨by rw [x_value, hf]; dsimp only; rw [hlo]; dsimp only; rw [x_val, if_pos c37], by rw [x_value, hf]; dsimp only; rw [hlo]; dsimp only; rw [x_val, if_pos c37], rfl⟩)
    · subst hk4
      obtain ⟨i, t, hi, he, ha, ht, hf, -⟩ := gk_sel_someL hR.1 hs
      subst he
      have hwt := hW.t (by omega) ht
      have hpl : t.ps.length ≤ 6 := hwt.2.2.1
      obtain ⟨hma, pa, h0, hps⟩ := cG_linkAt hR.1 hi ha ht
      show W _ _ _ _ _ _ _ _ _ _ _ _ _ _ _ (F0 m 9 ls [.ref a])
      refine lv_astore (lv' := [(5, .ref a), (0, .ref (L 0)), (1, .int 5), (2, .int (nI i)), (3, .int y), (4, .int wh)]) hx hb d_GK_value_9 hl (by decide) rfl (fun ls hl => ?_)
      refine lv_aload hx hb d_GK_value_11 (lv_at hl 0 rfl) ?_
      refine lv_ifnonnull (tgt := 26) hx hb d_GK_value_13 (by decide) ?_
      refine lv_aload hx hb d_GK_value_26 (lv_at hl 0 rfl) ?_
      refine lv_iload_n hx hb d_GK_value_28 rfl (lv_at hl 4 rfl) ?_
      refine hv_call (hv_runV (As := [.int y]) (rest := []) (c_Th_propertyOfL C y h0 hps hpl) (hv_cw C hZ kc_Th_propertyOf kn_Th ⟨rfl, rfl, Nat.le_of_ble_eq_true rfl, Nat.le_of_ble_eq_true rfl⟩) hv_blind (hv_pre hZ hS hP) hx hml hb hown (hts _ k_GK_228) (hts _ ki_Th_propertyOf) (hts _ ksel_Lk_Th_propertyOf) hy_Th_propertyOf (hts _ kc_Th_propertyOf) (va_recv hK (hv_one hP h0) (ci := 6) (q0 := 0) rfl rfl) rfl hl.1 rfl (lv_room (Nat.le_of_ble_eq_true rfl)) d_GK_value_29 ⟨Nat.le_of_ble_eq_true rfl, Nat.le_of_ble_eq_true rfl⟩) hZ hS (fun v9 w9 H locs q10 hP hS => ?_) (fun x9 w9 H locs q10 hP hS => q10.elim)
      obtain ⟨⟨r, hv9, hlk⟩, hw9⟩ := q10
      subst hv9
      rw [hw9] at hP
      show W _ _ _ _ _ _ _ _ _ _ _ _ _ _ _ (F0 m 32 ls [va_rf r])
      cases h9o : r with
      | none =>
        show W _ _ _ _ _ _ _ _ _ _ _ _ _ _ _ (F0 m 32 ls [.null])
        have hlo := g_lookq_none hlk h9o
        refine lv_astoreN (lv' := [(6, .null), (5, .ref a), (0, .ref (L 0)), (1, .int 5), (2, .int (nI i)), (3, .int y), (4, .int wh)]) hx hb d_GK_value_32 hl (by decide) rfl (fun ls hl => ?_)
        refine lv_iload hx hb d_GK_value_34 (lv_at hl 6 rfl) ?_
        refine lv_iconst (v := (-1)) hx hb d_GK_value_36 (by decide) ?_
        refine lv_icmp_ne (tgt := 56) hx hb d_GK_value_37 (by decide) (fun c37 => ?_) (fun c37 => ?_)
        · refine lv_aloadN hx hb d_GK_value_56 (lv_at hl 0 rfl) ?_
          refine lv_ifnonnullN hx hb d_GK_value_58 ?_
          exact hv_throwNE C N 2 kstr_235 hx hb htr hown hK hZ hS hP (hl.1.trans hml.symm) d_GK_value_61 d_GK_value_64 (Or.inl ⟨rfl, d_GK_value_65⟩) d_GK_value_67 d_GK_value_70 hout hlocks (Nat.le_of_ble_eq_true rfl) (Nat.le_of_ble_eq_true rfl) (Nat.le_of_ble_eq_true rfl) (Nat.le_of_ble_eq_true rfl) hQ (fun x9 hx9 => ⟨by rw [x_value, hf]; dsimp only; rw [hlo]; dsimp only; rw [if_neg c37], cThr.of hM hR hx9⟩)
        · refine lv_aloadN hx hb d_GK_value_40 (lv_at hl 0 rfl) ?_
          refine lv_ifnonnullN hx hb d_GK_value_42 ?_
          refine lv_lconst (v := 0) hx hb d_GK_value_45 (by decide) ?_
          refine lv_goto (tgt := 55) hx hb d_GK_value_46 (by decide) ?_
          refine W.widen (k := 1) (n := 6) (by omega) (by omega) ?_
          exact hv_lret (v := 0) hQ hx hb hr hZ hS hP hlocks d_GK_value_55 (⟨by rw [x_value, hf]; dsimp only; rw [hlo]; dsimp only; rw [if_pos c37], by rw [x_value, hf]; dsimp only; rw [hlo]; dsimp only; rw [if_pos c37], rfl⟩)
      | some qo =>
        show W _ _ _ _ _ _ _ _ _ _ _ _ _ _ _ (F0 m 32 ls [.ref qo])
        obtain ⟨po, hlo, hqo⟩ := g_lookq_some hlk h9o
        obtain ⟨hqm, tq, hq2, htm, tf, ht2, hte⟩ := id hqo
        have hl24 : po.2.2.2.length ≤ 24 := (hwt.2.2.2.2 po (g_look_mem hlo)).1
        refine lv_astore (lv' := [(6, .ref qo), (5, .ref a), (0, .ref (L 0)), (1, .int 5), (2, .int (nI i)), (3, .int y), (4, .int wh)]) hx hb d_GK_value_32 hl (by decide) rfl (fun ls hl => ?_)
        refine lv_iload hx hb d_GK_value_34 (lv_at hl 6 rfl) ?_
        refine lv_iconst (v := (-1)) hx hb d_GK_value_36 (by decide) ?_
        refine lv_icmp_ne (tgt := 56) hx hb d_GK_value_37 (by decide) (fun c37 => ?_) (fun c37 => ?_)
        · refine lv_aload hx hb d_GK_value_56 (lv_at hl 0 rfl) ?_
          refine lv_ifnonnull (tgt := 71) hx hb d_GK_value_58 (by decide) ?_
          refine lv_iload hx hb d_GK_value_71 (lv_at hl 6 rfl) ?_
          refine lv_bipush (v := (-2)) hx hb d_GK_value_73 (by decide) ?_
          refine lv_icmp_ne (tgt := 84) hx hb d_GK_value_75 (by decide) (fun c75 => ?_) (fun c75 => ?_)
          · refine lv_iload hx hb d_GK_value_84 (lv_at hl 6 rfl) ?_
            refine lv_if_lt (tgt := 100) hx hb d_GK_value_86 (by decide) (fun c86 => ?_) (fun c86 => ?_)
            · exact hv_throwNE C N 2 kstr_245 hx hb htr hown hK hZ hS hP (hl.1.trans hml.symm) d_GK_value_100 d_GK_value_103 (Or.inl ⟨rfl, d_GK_value_104⟩) d_GK_value_106 d_GK_value_109 hout hlocks (Nat.le_of_ble_eq_true rfl) (Nat.le_of_ble_eq_true rfl) (Nat.le_of_ble_eq_true rfl) (Nat.le_of_ble_eq_true rfl) hQ (fun x9 hx9 => ⟨by rw [x_value, hf]; dsimp only; rw [hlo]; dsimp only; rw [x_val, if_neg c37, if_neg c75, if_pos (Or.inl c86)], cThr.of hM hR hx9⟩)
            · refine lv_iload hx hb d_GK_value_89 (lv_at hl 6 rfl) ?_
              refine lv_aload hx hb d_GK_value_91 (lv_at hl 0 rfl) ?_
              refine va_get (D := D) (ci := 4) (v := .ref tq) (C := R_Pr) (T := F_Pr) (N := 4) hx hb hts i_Pr hown hK (hv_one hP hq2) 0 rfl rfl 3 (by decide) (hts _ k_GK_241) (fun _ h9 => h9) rfl d_GK_value_93 ?_
              refine va_alen (v := nI po.2.2.2.length) hx hb hK (hv_one hP ht2) 0 1 rfl rfl rfl d_GK_value_96 ?_
              refine lv_icmp_lt (tgt := 110) hx hb d_GK_value_97 (by decide) (fun c97 => ?_) (fun c97 => ?_)
              · refine lv_aload hx hb d_GK_value_110 (lv_at hl 0 rfl) ?_
                refine va_get (D := D) (ci := 4) (v := .ref tq) (C := R_Pr) (T := F_Pr) (N := 4) hx hb hts i_Pr hown hK (hv_one hP hq2) 0 rfl rfl 3 (by decide) (hts _ k_GK_241) (fun _ h9 => h9) rfl d_GK_value_112 ?_
                refine lv_iload hx hb d_GK_value_115 (lv_at hl 6 rfl) ?_
                refine va_bald hx hb hK (hv_one hP ht2) 0 1 rfl rfl (gk_in c86 (fun z9 => absurd c97 (Int32.not_lt.mpr z9)) (by omega)) d_GK_value_117 ?_
                refine lv_i2l (v := (tf wh.toNatClampNeg).toInt64) hx hb d_GK_value_118 rfl ?_
                refine W.widen (k := 1) (n := 6) (by omega) (by omega) ?_
                exact hv_lret (v := (tf wh.toNatClampNeg).toInt64) hQ hx hb hr hZ hS hP hlocks d_GK_value_119 (⟨by rw [x_value, hf]; dsimp only; rw [hlo]; dsimp only; rw [x_val, if_neg c37, if_neg c75, if_neg (fun z9 => z9.elim c86 (fun z8 => absurd c97 (Int32.not_lt.mpr z8)))], by rw [x_value, hf]; dsimp only; rw [hlo]; dsimp only; rw [x_val, if_neg c37, if_neg c75, if_neg (fun z9 => z9.elim c86 (fun z8 => absurd c97 (Int32.not_lt.mpr z8))), hte _ (gk_lt97 c86 c97 (by omega))], rfl⟩)
              · exact hv_throwNE C N 2 kstr_245 hx hb htr hown hK hZ hS hP (hl.1.trans hml.symm) d_GK_value_100 d_GK_value_103 (Or.inl ⟨rfl, d_GK_value_104⟩) d_GK_value_106 d_GK_value_109 hout hlocks (Nat.le_of_ble_eq_true rfl) (Nat.le_of_ble_eq_true rfl) (Nat.le_of_ble_eq_true rfl) (Nat.le_of_ble_eq_true rfl) hQ (fun x9 hx9 => ⟨by rw [x_value, hf]; dsimp only; rw [hlo]; dsimp only; rw [x_val, if_neg c37, if_neg c75, if_pos (Or.inr (Int32.not_lt.mp c97))], cThr.of hM hR hx9⟩)
          · refine lv_aload hx hb d_GK_value_78 (lv_at hl 0 rfl) ?_
            refine va_get (D := D) (ci := 4) (v := .long po.2.2.1) (C := R_Pr) (T := F_Pr) (N := 4) hx hb hts i_Pr hown hK (hv_one hP hq2) 0 rfl rfl 2 (by decide) (hts _ k_GK_237) (fun _ h9 => h9) rfl d_GK_value_80 ?_
            refine W.widen (k := 1) (n := 6) (by omega) (by omega) ?_
            exact hv_lret (v := po.2.2.1) hQ hx hb hr hZ hS hP hlocks d_GK_value_83 (⟨by rw [x_value, hf]; dsimp only; rw [hlo]; dsimp only; rw [x_val, if_neg c37, if_pos c75], by rw [x_value, hf]; dsimp only; rw [hlo]; dsimp only; rw [x_val, if_neg c37, if_pos c75], rfl⟩)
        · refine lv_aload hx hb d_GK_value_40 (lv_at hl 0 rfl) ?_
          refine lv_ifnonnull (tgt := 49) hx hb d_GK_value_42 (by decide) ?_
          refine lv_aload hx hb d_GK_value_49 (lv_at hl 0 rfl) ?_
          refine va_get (D := D) (ci := 4) (v := .int po.2.1) (C := R_Pr) (T := F_Pr) (N := 4) hx hb hts i_Pr hown hK (hv_one hP hq2) 0 rfl rfl 1 (by decide) (hts _ k_GK_232) (fun _ h9 => h9) rfl d_GK_value_51 ?_
          refine lv_i2l (v := po.2.1.toInt64) hx hb d_GK_value_54 rfl ?_
          refine W.widen (k := 1) (n := 6) (by omega) (by omega) ?_
          exact hv_lret (v := po.2.1.toInt64) hQ hx hb hr hZ hS hP hlocks d_GK_value_55 (⟨by rw [x_value, hf]; dsimp only; rw [hlo]; dsimp only; rw [x_val, if_pos c37], by rw [x_value, hf]; dsimp only; rw [hlo]; dsimp only; rw [x_val, if_pos c37], rfl⟩)

