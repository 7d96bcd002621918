abbrev rm_GK_property : Room := { frames := 9, cells := 9, slots := 69, locals := 149 }
set_option maxHeartbeats 4000000 in
set_option maxRecDepth 100000 in
theorem c_GK_property {l : Launch} {s0 : State} {D : va_G} {ca : Nat → ClassId} (C : hv_C l s0 D (hv_tys ca)) {w : hv_W} (N : hv_N s0) {L : Nat → Nat} {w0 : hv_W} {σ : gS} {P : cT} (k n y kd : Int32) (x : Int64) (hM : cK ca L w0 σ P w) (hR : cR ca L σ P w) (hW : gW σ)  :
    hv_Met l y_GK_property [.code y_GK_property b_GK_property 11 (some .boolean)] rm_GK_property (hv_Pc s0 D w [.ref (L 0), .int k, .int n, .int y, .int kd, .long x]) (hv_Q s0 D (fun v w' => cRet ca L w0 (x_property σ k n y kd x) v w') (fun x8 w' => cEx ca L w0 (x_property σ k n y kd x) x8 w')) 9 69 (hv_A s0.heap.size) := by
  refine hv_enter C _ (by decide) (Nat.le_of_ble_eq_true rfl) ?_
  intro p e s m below meth c ls Q hQ hx hb hr hml hown hts hK hZ hlocks hname hout htr hP hl
  have hown : s.vm.findClass R_GK = some m.cls := hown
  have hS : va_S (hv_A s0.heap.size) s.heap s.heap [] := va_S.rf
  have hl : lv_has ls 11 [(0, .ref (L 0)), (1, .int k), (2, .int n), (3, .int y), (4, .int kd), (5, .long x)] := hl
  refine lv_aload_n hx hb d_GK_property_0 rfl (lv_at hl 0 rfl) ?_
  have h1 : w (L 0) = some (.inr (0, [.ref (L 1), .ref (L 2), .ref (L 3), .ref (L 4), .ref (L 5), .ref (L 6), .ref (L 7), .int (σ.err), .int (nI (σ.sc)), .int (nI (σ.ec)), .int (σ.ins), .int (σ.off)])) := hM.1.2 0 (by decide)
  refine hv_call (hv_runV (As := []) (rest := []) (c_GK_mustBeOn C N hM hR) (hv_cw C hZ kc_GK_mustBeOn kn_GK ⟨rfl, rfl, Nat.le_of_ble_eq_true rfl, Nat.le_of_ble_eq_true rfl⟩) hv_blind (hv_pre hZ hS hP) hx hml hb hown (hts _ k_GK_47) (hts _ ki_GK_mustBeOn) (hts _ ksel_GK_GK_mustBeOn) hy_GK_mustBeOn (hts _ kc_GK_mustBeOn) (va_recv hK (hv_one hP h1) (ci := 0) (q0 := 0) rfl rfl) rfl hl.1 rfl (lv_room (Nat.le_of_ble_eq_true rfl)) d_GK_property_1 ⟨Nat.le_of_ble_eq_true rfl, Nat.le_of_ble_eq_true rfl⟩) hZ hS (fun v9 w2 H locs q3 hP hS => ?_) (fun x9 w2 H locs q3 hP hS => ?_)
  · obtain ⟨hoff, hv9, hw9⟩ := q3
    subst hv9
    rw [hw9] at hP
    show W _ _ _ _ _ _ _ _ _ _ _ _ _ _ _ (F0 m 4 ls [])
    refine lv_aload_n hx hb d_GK_property_4 rfl (lv_at hl 0 rfl) ?_
    refine lv_iload_n hx hb d_GK_property_5 rfl (lv_at hl 1 rfl) ?_
    refine lv_iload_n hx hb d_GK_property_6 rfl (lv_at hl 2 rfl) ?_
    refine hv_call (hv_runV (As := [.int k, .int n]) (rest := []) (c_GK_wantedThing C N k n hM hR) (hv_cw C hZ kc_GK_wantedThing kn_GK ⟨rfl, rfl, Nat.le_of_ble_eq_true rfl, Nat.le_of_ble_eq_true rfl⟩) hv_blind (hv_pre hZ hS hP) hx hml hb hown (hts _ k_GK_90) (hts _ ki_GK_wantedThing) (hts _ ksel_GK_GK_wantedThing) hy_GK_wantedThing (hts _ kc_GK_wantedThing) (va_recv hK (hv_one hP h1) (ci := 0) (q0 := 0) rfl rfl) rfl hl.1 rfl (lv_room (Nat.le_of_ble_eq_true rfl)) d_GK_property_7 ⟨Nat.le_of_ble_eq_true rfl, Nat.le_of_ble_eq_true rfl⟩) hZ hS (fun v9 w4 H locs q5 hP hS => ?_) (fun x9 w4 H locs q5 hP hS => ?_)
    · obtain ⟨a, hth, hv9, hw9⟩ := q5
      subst hv9
      rw [hw9] at hP
      show W _ _ _ _ _ _ _ _ _ _ _ _ _ _ _ (F0 m 10 ls [.ref a])
      rcases (gk_thing_someE hR.1 hth) with ⟨hk4, hs⟩ | ⟨hk4, hs⟩
      · subst hk4
        obtain ⟨i, t, hi, he, ha, ht, hf, -⟩ := gk_sel_someN hR.1 hs
        subst he
        have hwt := hW.t (by omega) ht
        have hpl : t.ps.length ≤ 6 := hwt.2.2.1
        obtain ⟨hma, pa, lb, h0, hls, hps⟩ := cG_nodeAt hR.1 hi ha ht
        refine lv_astore (lv' := [(7, .ref a), (0, .ref (L 0)), (1, .int 4), (2, .int (nI i)), (3, .int y), (4, .int kd), (5, .long x)]) hx hb d_GK_property_10 hl (by decide) rfl (fun ls hl => ?_)
        refine lv_aload_n hx hb d_GK_property_12 rfl (lv_at hl 1 rfl) ?_
        refine lv_iload hx hb d_GK_property_13 (lv_at hl 5 rfl) ?_
        refine lv_lload hx hb d_GK_property_15 (lv_at hl 6 rfl) ?_
        refine hv_call (hv_runV (As := [.int kd, .long x]) (rest := []) (c_GK_mustBeValue C N kd x hM hR) (hv_cw C hZ kc_GK_mustBeValue kn_GK ⟨rfl, rfl, Nat.le_of_ble_eq_true rfl, Nat.le_of_ble_eq_true rfl⟩) hv_blind (hv_pre hZ hS hP) hx hml hb hown (hts _ k_GK_94) (hts _ ki_GK_mustBeValue) (hts _ ksel_GK_GK_mustBeValue) hy_GK_mustBeValue (hts _ kc_GK_mustBeValue) (va_recv hK (hv_one hP h1) (ci := 0) (q0 := 0) rfl rfl) rfl hl.1 rfl (lv_room (Nat.le_of_ble_eq_true rfl)) d_GK_property_17 ⟨Nat.le_of_ble_eq_true rfl, Nat.le_of_ble_eq_true rfl⟩) hZ hS (fun v9 w6 H locs q7 hP hS => ?_) (fun x9 w6 H locs q7 hP hS => ?_)
        · obtain ⟨hok, hv9, hw9⟩ := q7
          subst hv9
          rw [hw9] at hP
          show W _ _ _ _ _ _ _ _ _ _ _ _ _ _ _ (F0 m 20 ls [])
          refine lv_iload hx hb d_GK_property_20 (lv_at hl 5 rfl) ?_
          refine lv_if_ne (tgt := 34) hx hb d_GK_property_22 (by decide) (fun c22 => ?_) (fun c22 => ?_)
          · refine lv_iload hx hb d_GK_property_34 (lv_at hl 5 rfl) ?_
            refine lv_iconst (v := 3) hx hb d_GK_property_36 (by decide) ?_
            refine lv_icmp_ne (tgt := 50) hx hb d_GK_property_37 (by decide) (fun c37 => ?_) (fun c37 => ?_)
            · refine lv_iconst (v := 0) hx hb d_GK_property_50 (by decide) ?_
              have hM_old := hM
              refine hv_newa (a0 := (0, .inl (fun _ => 0))) hx hb (show (Cond.arrayClass (newarray.typeOf .byte)).before _ s = true from hts _ ka_byte) rfl hK hP hS hZ.2.1 1 rfl (N' := 0) (fun _ => rfl) (nI_pos (n := 0) (by omega)) (nI_clamp (n := 0) (by omega)) (gk_bytes (Nat.le_trans (Nat.mul_le_mul_left _ (by decide : _ ≤ 8)) (by omega))) (Nat.le_of_ble_eq_true rfl) (by show _ + _ ≤ 69; omega) d_GK_property_51 (fun q8 H hq9 hP hS => ?_)
              obtain ⟨w10, ew10⟩ : ∃ z9 : hv_W, z9 = va_up w q8 (some (.inl (ca 1, 0, .inl (fun _ => 0)))) := ⟨_, rfl⟩
              have hP : hv_P D classes s0.heap.size w10 H := by rw [ew10]; exact hP
              have hM : cK ca L w0 σ P w10 := by rw [ew10]; exact hM.new hq9
              have hR : cR ca L σ P w10 := by rw [ew10]; exact hR.new hq9
              have h11 : w10 a = some (.inr (5, [.ref pa, .ref lb])) := by rw [ew10]; exact hv_up_f hq9 h0
              have h12 : w10 q8 = some (.inl (ca 1, 0, .inl (fun _ => 0))) := by rw [ew10]; exact hv_up_s
              refine W.widen (k := 4) (n := 18) (by omega) (by omega) ?_
              show W _ _ _ _ _ _ _ _ _ _ _ _ _ _ _ (F0 m 53 ls [.ref q8])
              have hxt : g_txt ca (cM L) w10 q8 [] := g_txt_nil (fun z9 => by obtain ⟨j9, hj9, e9⟩ := z9; obtain ⟨f9, hf9⟩ := hM_old.cell hj9; rw [← e9, hq9] at hf9; cases hf9) h12
              refine lv_astore (lv' := [(8, .ref q8), (7, .ref a), (0, .ref (L 0)), (1, .int 4), (2, .int (nI i)), (3, .int y), (4, .int kd), (5, .long x)]) hx hb d_GK_property_53 hl (by decide) rfl (fun ls hl => ?_)
              refine lv_iload hx hb d_GK_property_55 (lv_at hl 6 rfl) ?_
              refine lv_iconst (v := 3) hx hb d_GK_property_57 (by decide) ?_
              refine lv_icmp_ne (tgt := 68) hx hb d_GK_property_58 (by decide) (fun c58 => ?_) (fun c58 => ?_)
              · refine lv_lload hx hb d_GK_property_68 (lv_at hl 7 rfl) ?_
                refine lv_lstore (lv' := [(9, .long x), (8, .ref q8), (7, .ref a), (0, .ref (L 0)), (1, .int 4), (2, .int (nI i)), (3, .int y), (4, .int kd), (5, .long x)]) hx hb d_GK_property_70 hl (by decide) rfl (fun ls hl => ?_)
                refine lv_aload_n hx hb d_GK_property_72 rfl (lv_at hl 3 rfl) ?_
                refine lv_aload hx hb d_GK_property_73 (lv_at hl 2 rfl) ?_
                refine lv_iload_n hx hb d_GK_property_75 rfl (lv_at hl 5 rfl) ?_
                refine hv_new (ci := 4) (fs := [.int 0, .int 0, .long 0, .null]) (C := R_Pr) (T := F_Pr) (N := 4) hx hb hts i_Pr t_Pr t_Pr_ok hown (hts _ k_GK_59) (hts _ kin_Pr) (hts _ kn_Pr) hK hP hS hZ.2.1 rfl z_Pr (Nat.le_of_ble_eq_true rfl) (Nat.le_of_ble_eq_true rfl) d_GK_property_76 (fun q13 H hq14 hP hS => ?_)
                obtain ⟨w15, ew15⟩ : ∃ z9 : hv_W, z9 = va_up w10 q13 (some (.inr (4, [.int 0, .int 0, .long 0, .null]))) := ⟨_, rfl⟩
                have hP : hv_P D classes s0.heap.size w15 H := by rw [ew15]; exact hP
                have h16 : w15 q13 = some (.inr (4, [.int 0, .int 0, .long 0, .null])) := by rw [ew15]; exact hv_up_s
                refine W.widen (k := 5) (n := 22) (by omega) (by omega) ?_
                show W _ _ _ _ _ _ _ _ _ _ _ _ _ _ _ (F0 m 79 ls [.ref q13, .int (nI i), .ref a, .ref (L 0)])
                have hg17 : g_grow w10 w15 := g_grow.trans (g_grow.refl _) (by rw [ew15]; exact g_grow.new hq14)
                refine lv_dup hx hb d_GK_property_79 rfl ?_
                refine lv_iload_n hx hb d_GK_property_80 rfl (lv_at hl 6 rfl) ?_
                refine lv_iload hx hb d_GK_property_81 (lv_at hl 7 rfl) ?_
                refine lv_lload hx hb d_GK_property_83 (lv_at hl 0 rfl) ?_
                refine lv_aload hx hb d_GK_property_85 (lv_at hl 1 rfl) ?_
                refine hv_call (hv_runI (As := [.int y, .int kd, .long x, .ref q8]) (rest := [.ref q13, .int (nI i), .ref a, .ref (L 0)]) (c_Pr_init C y kd x h16) (hv_cw C hZ kc_Pr_init kn_Pr ⟨rfl, rfl, Nat.le_of_ble_eq_true rfl, Nat.le_of_ble_eq_true rfl⟩) hv_blind (hv_pre hZ hS hP) hx hml hb hown (hts _ k_GK_106) (hts _ ki_Pr_init) rfl hy_Pr_init (hts _ kc_Pr_init) rfl hl.1 rfl (lv_room (Nat.le_of_ble_eq_true rfl)) d_GK_property_87 ⟨Nat.le_of_ble_eq_true rfl, Nat.le_of_ble_eq_true rfl⟩) hZ hS (fun v9 w18 H locs q19 hP hS => ?_) (fun x9 w18 H locs q19 hP hS => q19.elim)
                obtain ⟨hv9, hu9⟩ := q19
                subst hv9
                have hg9 : g_grow w10 w18 := g_grow.upd hq14 hg17 hu9
                have hpp : g_prop ca (cM L) w18 q13 (y, kd, x, []) := ⟨hM.fresh hq14, q8, hu9.1, hxt.k hg9.keep⟩
                have hM : cK ca L w0 σ P w18 := hM.grow hg9
                have hR : cR ca L σ P w18 := hR.k hg9.keep
                obtain ⟨hma, pa, lb, h0, hls, hps⟩ := cG_nodeAt hR.1 hi ha ht
                show W _ _ _ _ _ _ _ _ _ _ _ _ _ _ _ (F0 m 90 ls [.ref q13, .int (nI i), .ref a, .ref (L 0)])
                have h20 : w18 (L 0) = some (.inr (0, [.ref (L 1), .ref (L 2), .ref (L 3), .ref (L 4), .ref (L 5), .ref (L 6), .ref (L 7), .int (σ.err), .int (nI (σ.sc)), .int (nI (σ.ec)), .int (σ.ins), .int (σ.off)])) := hM.1.2 0 (by decide)
                refine hv_call (hv_runV (As := [.ref a, .int (nI i), .ref q13]) (rest := []) (c_GK_putPropertyN C N (σ := σ) hM hR hi ha ht hpl hpp (Nat.zero_le _) (fun p9 h9 => (hwt.2.2.2.2 p9 h9).1) hW.hb) (hv_cw C hZ kc_GK_putProperty kn_GK ⟨rfl, rfl, Nat.le_of_ble_eq_true rfl, Nat.le_of_ble_eq_true rfl⟩) hv_blind (hv_pre hZ hS hP) hx hml hb hown (hts _ k_GK_109) (hts _ ki_GK_putProperty) (hts _ ksel_GK_GK_putProperty) hy_GK_putProperty (hts _ kc_GK_putProperty) (va_recv hK (hv_one hP h20) (ci := 0) (q0 := 0) rfl rfl) rfl hl.1 rfl (lv_room (Nat.le_of_ble_eq_true rfl)) d_GK_property_90 ⟨Nat.le_of_ble_eq_true rfl, Nat.le_of_ble_eq_true rfl⟩) hZ hS (fun v9 w21 H locs q22 hP hS => ?_) (fun x9 w21 H locs q22 hP hS => ?_)
                · rcases q22 with ⟨hx0, hv9, hw9⟩ | ⟨hx2, hno9, hv9, hP9⟩
                  · subst hv9
                    rw [hw9] at hP
                    show W _ _ _ _ _ _ _ _ _ _ _ _ _ _ _ (F0 m 93 ls [.int 0])
                    refine W.widen (k := 9) (n := 69) (by omega) (by omega) ?_
                    exact hv_zret (v := 0) hQ hx hb hr (by decide) hZ hS hP hlocks d_GK_property_93 (by rw [x_property, cif_pos hoff, hf]; dsimp only; rw [cif_pos hok, cif_neg c22, cif_neg c37, x_put, cif_pos hx0]; exact ⟨rfl, rfl, P, hM, hR⟩)
                  · subst hv9
                    show W _ _ _ _ _ _ _ _ _ _ _ _ _ _ _ (F0 m 93 ls [.int 1])
                    refine W.widen (k := 9) (n := 69) (by omega) (by omega) ?_
                    exact hv_zret (v := 1) hQ hx hb hr (by decide) hZ hS hP hlocks d_GK_property_93 (by rw [x_property, cif_pos hoff, hf]; dsimp only; rw [cif_pos hok, cif_neg c22, cif_neg c37, x_put, cif_neg (by rw [hx2]; decide), cif_neg (by rw [hx2]; decide), cif_neg hno9]; exact ⟨rfl, rfl, hP9⟩)
                · rcases q22 with ⟨hx1, ht9⟩ | ⟨hx2, hge9, ht9⟩
                  · refine hv_Tw (k := 9) (n := 69) (by omega) (by omega) ?_
                    exact hv_tleave hQ hZ hS hP hlocks (hout _) (Or.inl (by rw [x_property, cif_pos hoff, hf]; dsimp only; rw [cif_pos hok, cif_neg c22, cif_neg c37, x_put, cif_neg (by rw [hx1]; decide), cif_pos hx1]; exact ⟨rfl, ht9⟩))
                  · refine hv_Tw (k := 9) (n := 69) (by omega) (by omega) ?_
                    exact hv_tleave hQ hZ hS hP hlocks (hout _) (Or.inl (by rw [x_property, cif_pos hoff, hf]; dsimp only; rw [cif_pos hok, cif_neg c22, cif_neg c37, x_put, cif_neg (by rw [hx2]; decide), cif_neg (by rw [hx2]; decide), cif_pos hge9]; exact ⟨rfl, ht9⟩))
              · exact absurd c58 c37
            · refine lv_aload_n hx hb d_GK_property_40 rfl (lv_at hl 1 rfl) ?_
              refine va_get (D := D) (ci := 0) (v := .ref (L 5)) (C := R_GK) (T := F_GK) (N := 12) hx hb hts i_GK hown hK (hv_one hP h1) 0 rfl rfl 4 (by decide) (hts _ k_GK_32) (fun _ h9 => h9) rfl d_GK_property_41 ?_
              have h23 : w (L 5) = some (.inr (3, [.ref (L 14), .int (nI (σ.tape).length)])) := hM.1.2 5 (by decide)
              have h24 : w (L 14) = some (.inl (ca 1, 24, .inl P.tb)) := hM.1.2 14 (by decide)
              refine hv_call (hv_runV (As := []) (rest := []) (c_Tp_pull C hM.mu h23 h24 hR.2.2.2.2.2 hW.tape hW.asc) (hv_cw C hZ kc_Tp_pull kn_Tp ⟨rfl, rfl, Nat.le_of_ble_eq_true rfl, Nat.le_of_ble_eq_true rfl⟩) hv_blind (hv_pre hZ hS hP) hx hml hb hown (hts _ k_GK_102) (hts _ ki_Tp_pull) (hts _ ksel_Tp_Tp_pull) hy_Tp_pull (hts _ kc_Tp_pull) (va_recv hK (hv_one hP h23) (ci := 3) (q0 := 0) rfl rfl) rfl hl.1 rfl (lv_room (Nat.le_of_ble_eq_true rfl)) d_GK_property_44 ⟨Nat.le_of_ble_eq_true rfl, Nat.le_of_ble_eq_true rfl⟩) hZ hS (fun v9 w25 H locs q26 hP hS => ?_) (fun x9 w25 H locs q26 hP hS => q26.elim)
              obtain ⟨tx, hv9, hxn, hxt, hx5, hxo⟩ := q26
              subst hv9
              have hk9 : g_keep (cM L) w w25 := g_keep.putNew (k := 5) (by decide) hxn hxo
              have hR9 := hR.k hk9
              have hM : cK ca L w0 (σ.sTape []) P w25 := hM.putNew 5 (by decide) hxn hx5 hxo rfl
              have hR : cR ca L (σ.sTape []) P w25 := ⟨hR9.1, hR9.2.1, hR9.2.2.1, hR9.2.2.2.1, hR9.2.2.2.2.1, fun _ h9 => absurd h9 (Nat.not_lt_zero _)⟩
              obtain ⟨hxm, xf9, hxc, hxe⟩ := id hxt
              show W _ _ _ _ _ _ _ _ _ _ _ _ _ _ _ (F0 m 47 ls [.ref tx])
              refine lv_goto (tgt := 53) hx hb d_GK_property_47 (by decide) ?_
              refine lv_astore (lv' := [(8, .ref tx), (7, .ref a), (0, .ref (L 0)), (1, .int 4), (2, .int (nI i)), (3, .int y), (4, .int kd), (5, .long x)]) hx hb d_GK_property_53 hl (by decide) rfl (fun ls hl => ?_)
              refine lv_iload hx hb d_GK_property_55 (lv_at hl 6 rfl) ?_
              refine lv_iconst (v := 3) hx hb d_GK_property_57 (by decide) ?_
              refine lv_icmp_ne (tgt := 68) hx hb d_GK_property_58 (by decide) (fun c58 => ?_) (fun c58 => ?_)
              · exact absurd c37 c58
              · refine lv_aload hx hb d_GK_property_61 (lv_at hl 0 rfl) ?_
                refine va_alen (v := nI (σ.tape.length)) hx hb hK (hv_one hP hxc) 0 1 rfl rfl rfl d_GK_property_63 ?_
                refine lv_i2l (v := (nI (σ.tape.length)).toInt64) hx hb d_GK_property_64 rfl ?_
                refine lv_goto (tgt := 70) hx hb d_GK_property_65 (by decide) ?_
                refine lv_lstore (lv' := [(9, .long ((nI (σ.tape.length)).toInt64)), (8, .ref tx), (7, .ref a), (0, .ref (L 0)), (1, .int 4), (2, .int (nI i)), (3, .int y), (4, .int kd), (5, .long x)]) hx hb d_GK_property_70 hl (by decide) rfl (fun ls hl => ?_)
                refine lv_aload_n hx hb d_GK_property_72 rfl (lv_at hl 3 rfl) ?_
                refine lv_aload hx hb d_GK_property_73 (lv_at hl 2 rfl) ?_
                refine lv_iload_n hx hb d_GK_property_75 rfl (lv_at hl 5 rfl) ?_
                refine hv_new (ci := 4) (fs := [.int 0, .int 0, .long 0, .null]) (C := R_Pr) (T := F_Pr) (N := 4) hx hb hts i_Pr t_Pr t_Pr_ok hown (hts _ k_GK_59) (hts _ kin_Pr) (hts _ kn_Pr) hK hP hS hZ.2.1 rfl z_Pr (Nat.le_of_ble_eq_true rfl) (Nat.le_of_ble_eq_true rfl) d_GK_property_76 (fun q27 H hq28 hP hS => ?_)
                obtain ⟨w29, ew29⟩ : ∃ z9 : hv_W, z9 = va_up w25 q27 (some (.inr (4, [.int 0, .int 0, .long 0, .null]))) := ⟨_, rfl⟩
                have hP : hv_P D classes s0.heap.size w29 H := by rw [ew29]; exact hP
                have h30 : w29 q27 = some (.inr (4, [.int 0, .int 0, .long 0, .null])) := by rw [ew29]; exact hv_up_s
                refine W.widen (k := 5) (n := 46) (by omega) (by omega) ?_
                show W _ _ _ _ _ _ _ _ _ _ _ _ _ _ _ (F0 m 79 ls [.ref q27, .int (nI i), .ref a, .ref (L 0)])
                have hg31 : g_grow w25 w29 := g_grow.trans (g_grow.refl _) (by rw [ew29]; exact g_grow.new hq28)
                refine lv_dup hx hb d_GK_property_79 rfl ?_
                refine lv_iload_n hx hb d_GK_property_80 rfl (lv_at hl 6 rfl) ?_
                refine lv_iload hx hb d_GK_property_81 (lv_at hl 7 rfl) ?_
                refine lv_lload hx hb d_GK_property_83 (lv_at hl 0 rfl) ?_
                refine lv_aload hx hb d_GK_property_85 (lv_at hl 1 rfl) ?_
                refine hv_call (hv_runI (As := [.int y, .int kd, .long ((nI (σ.tape.length)).toInt64), .ref tx]) (rest := [.ref q27, .int (nI i), .ref a, .ref (L 0)]) (c_Pr_init C y kd ((nI σ.tape.length).toInt64) h30) (hv_cw C hZ kc_Pr_init kn_Pr ⟨rfl, rfl, Nat.le_of_ble_eq_true rfl, Nat.le_of_ble_eq_true rfl⟩) hv_blind (hv_pre hZ hS hP) hx hml hb hown (hts _ k_GK_106) (hts _ ki_Pr_init) rfl hy_Pr_init (hts _ kc_Pr_init) rfl hl.1 rfl (lv_room (Nat.le_of_ble_eq_true rfl)) d_GK_property_87 ⟨Nat.le_of_ble_eq_true rfl, Nat.le_of_ble_eq_true rfl⟩) hZ hS (fun v9 w32 H locs q33 hP hS => ?_) (fun x9 w32 H locs q33 hP hS => q33.elim)
                obtain ⟨hv9, hu9⟩ := q33
                subst hv9
                have hg9 : g_grow w25 w32 := g_grow.upd hq28 hg31 hu9
                have hpp : g_prop ca (cM L) w32 q27 (y, kd, (nI σ.tape.length).toInt64, σ.tape) := ⟨hM.fresh hq28, tx, hu9.1, hxt.k hg9.keep⟩
                have hM : cK ca L w0 (σ.sTape []) P w32 := hM.grow hg9
                have hR : cR ca L (σ.sTape []) P w32 := hR.k hg9.keep
                obtain ⟨hma, pa, lb, h0, hls, hps⟩ := cG_nodeAt hR.1 hi ha ht
                show W _ _ _ _ _ _ _ _ _ _ _ _ _ _ _ (F0 m 90 ls [.ref q27, .int (nI i), .ref a, .ref (L 0)])
                have h34 : w32 (L 0) = some (.inr (0, [.ref (L 1), .ref (L 2), .ref (L 3), .ref (L 4), .ref (L 5), .ref (L 6), .ref (L 7), .int ((σ.sTape []).err), .int (nI ((σ.sTape []).sc)), .int (nI ((σ.sTape []).ec)), .int ((σ.sTape []).ins), .int ((σ.sTape []).off)])) := hM.1.2 0 (by decide)
                refine hv_call (hv_runV (As := [.ref a, .int (nI i), .ref q27]) (rest := []) (c_GK_putPropertyN C N (σ := (σ.sTape [])) hM hR hi ha ht hpl hpp hW.tape (fun p9 h9 => (hwt.2.2.2.2 p9 h9).1) hW.hb) (hv_cw C hZ kc_GK_putProperty kn_GK ⟨rfl, rfl, Nat.le_of_ble_eq_true rfl, Nat.le_of_ble_eq_true rfl⟩) hv_blind (hv_pre hZ hS hP) hx hml hb hown (hts _ k_GK_109) (hts _ ki_GK_putProperty) (hts _ ksel_GK_GK_putProperty) hy_GK_putProperty (hts _ kc_GK_putProperty) (va_recv hK (hv_one hP h34) (ci := 0) (q0 := 0) rfl rfl) rfl hl.1 rfl (lv_room (Nat.le_of_ble_eq_true rfl)) d_GK_property_90 ⟨Nat.le_of_ble_eq_true rfl, Nat.le_of_ble_eq_true rfl⟩) hZ hS (fun v9 w35 H locs q36 hP hS => ?_) (fun x9 w35 H locs q36 hP hS => ?_)
                · rcases q36 with ⟨hx0, hv9, hw9⟩ | ⟨hx2, hno9, hv9, hP9⟩
                  · subst hv9
                    rw [hw9] at hP
                    show W _ _ _ _ _ _ _ _ _ _ _ _ _ _ _ (F0 m 93 ls [.int 0])
                    exact hv_zret (v := 0) hQ hx hb hr (by decide) hZ hS hP hlocks d_GK_property_93 (by rw [x_property, cif_pos hoff, hf]; dsimp only; rw [cif_pos hok, cif_neg c22, cif_pos c37, x_put, cif_pos hx0]; exact ⟨rfl, rfl, P, hM, hR⟩)
                  · subst hv9
                    show W _ _ _ _ _ _ _ _ _ _ _ _ _ _ _ (F0 m 93 ls [.int 1])
                    exact hv_zret (v := 1) hQ hx hb hr (by decide) hZ hS hP hlocks d_GK_property_93 (by rw [x_property, cif_pos hoff, hf]; dsimp only; rw [cif_pos hok, cif_neg c22, cif_pos c37, x_put, cif_neg (by rw [hx2]; decide), cif_neg (by rw [hx2]; decide), cif_neg hno9]; exact ⟨rfl, rfl, hP9⟩)
                · rcases q36 with ⟨hx1, ht9⟩ | ⟨hx2, hge9, ht9⟩
                  · exact hv_tleave hQ hZ hS hP hlocks (hout _) (Or.inl (by rw [x_property, cif_pos hoff, hf]; dsimp only; rw [cif_pos hok, cif_neg c22, cif_pos c37, x_put, cif_neg (by rw [hx1]; decide), cif_pos hx1]; exact ⟨rfl, ht9⟩))
                  · exact hv_tleave hQ hZ hS hP hlocks (hout _) (Or.inl (by rw [x_property, cif_pos hoff, hf]; dsimp only; rw [cif_pos hok, cif_neg c22, cif_pos c37, x_put, cif_neg (by rw [hx2]; decide), cif_neg (by rw [hx2]; decide), cif_pos hge9]; exact ⟨rfl, ht9⟩))
          · refine lv_aload_n hx hb d_GK_property_25 rfl (lv_at hl 1 rfl) ?_
            refine lv_aload hx hb d_GK_property_26 (lv_at hl 0 rfl) ?_
            refine lv_iload_n hx hb d_GK_property_28 rfl (lv_at hl 3 rfl) ?_
            refine lv_iload_n hx hb d_GK_property_29 rfl (lv_at hl 4 rfl) ?_
            refine hv_call (hv_runV (As := [.ref a, .int (nI i), .int y]) (rest := []) (c_GK_dropPropertyN C N hM hR hi ha ht hpl y hW.hb) (hv_cw C hZ kc_GK_dropProperty kn_GK ⟨rfl, rfl, Nat.le_of_ble_eq_true rfl, Nat.le_of_ble_eq_true rfl⟩) hv_blind (hv_pre hZ hS hP) hx hml hb hown (hts _ k_GK_98) (hts _ ki_GK_dropProperty) (hts _ ksel_GK_GK_dropProperty) hy_GK_dropProperty (hts _ kc_GK_dropProperty) (va_recv hK (hv_one hP h1) (ci := 0) (q0 := 0) rfl rfl) rfl hl.1 rfl (lv_room (Nat.le_of_ble_eq_true rfl)) d_GK_property_30 ⟨Nat.le_of_ble_eq_true rfl, Nat.le_of_ble_eq_true rfl⟩) hZ hS (fun v9 w37 H locs q38 hP hS => ?_) (fun x9 w37 H locs q38 hP hS => ?_)
            · rcases q38 with ⟨hlo9, hv9, hw9⟩ | ⟨o9, hlo9, hno9, hv9, hP9⟩
              · subst hv9
                rw [hw9] at hP
                show W _ _ _ _ _ _ _ _ _ _ _ _ _ _ _ (F0 m 33 ls [.int 0])
                refine W.widen (k := 9) (n := 69) (by omega) (by omega) ?_
                exact hv_zret (v := 0) hQ hx hb hr (by decide) hZ hS hP hlocks d_GK_property_33 (by rw [x_property, cif_pos hoff, hf]; dsimp only; rw [cif_pos hok, cif_pos c22, x_drp, hlo9]; exact ⟨rfl, rfl, P, hM, hR⟩)
              · subst hv9
                show W _ _ _ _ _ _ _ _ _ _ _ _ _ _ _ (F0 m 33 ls [.int 1])
                refine W.widen (k := 9) (n := 69) (by omega) (by omega) ?_
                exact hv_zret (v := 1) hQ hx hb hr (by decide) hZ hS hP hlocks d_GK_property_33 (by rw [x_property, cif_pos hoff, hf]; dsimp only; rw [cif_pos hok, cif_pos c22, x_drp, hlo9]; dsimp only; rw [cif_neg hno9]; exact ⟨rfl, rfl, hP9⟩)
            · obtain ⟨o9, hlo9, hge9, ht9⟩ := q38
              refine hv_Tw (k := 9) (n := 69) (by omega) (by omega) ?_
              exact hv_tleave hQ hZ hS hP hlocks (hout _) (Or.inl (by rw [x_property, cif_pos hoff, hf]; dsimp only; rw [cif_pos hok, cif_pos c22, x_drp, hlo9]; dsimp only; rw [cif_pos hge9]; exact ⟨rfl, ht9⟩))
        · refine hv_Tw (k := 9) (n := 69) (by omega) (by omega) ?_
          exact hv_tleave hQ hZ hS hP hlocks (hout _) (Or.inl (by rw [x_property, cif_pos hoff, hf]; dsimp only; rw [cif_neg q7.1]; exact ⟨rfl, q7.2⟩))
      · subst hk4
        obtain ⟨i, t, hi, he, ha, ht, hf, -⟩ := gk_sel_someL hR.1 hs
        subst he
        have hwt := hW.t (by omega) ht
        have hpl : t.ps.length ≤ 6 := hwt.2.2.1
        obtain ⟨hma, pa, h0, hps⟩ := cG_linkAt hR.1 hi ha ht
        refine lv_astore (lv' := [(7, .ref a), (0, .ref (L 0)), (1, .int 5), (2, .int (nI i)), (3, .int y), (4, .int kd), (5, .long x)]) hx hb d_GK_property_10 hl (by decide) rfl (fun ls hl => ?_)
        refine lv_aload_n hx hb d_GK_property_12 rfl (lv_at hl 1 rfl) ?_
        refine lv_iload hx hb d_GK_property_13 (lv_at hl 5 rfl) ?_
        refine lv_lload hx hb d_GK_property_15 (lv_at hl 6 rfl) ?_
        refine hv_call (hv_runV (As := [.int kd, .long x]) (rest := []) (c_GK_mustBeValue C N kd x hM hR) (hv_cw C hZ kc_GK_mustBeValue kn_GK ⟨rfl, rfl, Nat.le_of_ble_eq_true rfl, Nat.le_of_ble_eq_true rfl⟩) hv_blind (hv_pre hZ hS hP) hx hml hb hown (hts _ k_GK_94) (hts _ ki_GK_mustBeValue) (hts _ ksel_GK_GK_mustBeValue) hy_GK_mustBeValue (hts _ kc_GK_mustBeValue) (va_recv hK (hv_one hP h1) (ci := 0) (q0 := 0) rfl rfl) rfl hl.1 rfl (lv_room (Nat.le_of_ble_eq_true rfl)) d_GK_property_17 ⟨Nat.le_of_ble_eq_true rfl, Nat.le_of_ble_eq_true rfl⟩) hZ hS (fun v9 w39 H locs q40 hP hS => ?_) (fun x9 w39 H locs q40 hP hS => ?_)
        · obtain ⟨hok, hv9, hw9⟩ := q40
          subst hv9
          rw [hw9] at hP
          show W _ _ _ _ _ _ _ _ _ _ _ _ _ _ _ (F0 m 20 ls [])
          refine lv_iload hx hb d_GK_property_20 (lv_at hl 5 rfl) ?_
          refine lv_if_ne (tgt := 34) hx hb d_GK_property_22 (by decide) (fun c22 => ?_) (fun c22 => ?_)
          · refine lv_iload hx hb d_GK_property_34 (lv_at hl 5 rfl) ?_
            refine lv_iconst (v := 3) hx hb d_GK_property_36 (by decide) ?_
            refine lv_icmp_ne (tgt := 50) hx hb d_GK_property_37 (by decide) (fun c37 => ?_) (fun c37 => ?_)
            · refine lv_iconst (v := 0) hx hb d_GK_property_50 (by decide) ?_
              have hM_old := hM
              refine hv_newa (a0 := (0, .inl (fun _ => 0))) hx hb (show (Cond.arrayClass (newarray.typeOf .byte)).before _ s = true from hts _ ka_byte) rfl hK hP hS hZ.2.1 1 rfl (N' := 0) (fun _ => rfl) (nI_pos (n := 0) (by omega)) (nI_clamp (n := 0) (by omega)) (gk_bytes (Nat.le_trans (Nat.mul_le_mul_left _ (by decide : _ ≤ 8)) (by omega))) (Nat.le_of_ble_eq_true rfl) (by show _ + _ ≤ 69; omega) d_GK_property_51 (fun q41 H hq42 hP hS => ?_)
              obtain ⟨w43, ew43⟩ : ∃ z9 : hv_W, z9 = va_up w q41 (some (.inl (ca 1, 0, .inl (fun _ => 0)))) := ⟨_, rfl⟩
              have hP : hv_P D classes s0.heap.size w43 H := by rw [ew43]; exact hP
              have hM : cK ca L w0 σ P w43 := by rw [ew43]; exact hM.new hq42
              have hR : cR ca L σ P w43 := by rw [ew43]; exact hR.new hq42
              have h44 : w43 a = some (.inr (6, [.ref pa, .int t.st, .int t.en, .int t.ty])) := by rw [ew43]; exact hv_up_f hq42 h0
              have h45 : w43 q41 = some (.inl (ca 1, 0, .inl (fun _ => 0))) := by rw [ew43]; exact hv_up_s
              refine W.widen (k := 4) (n := 18) (by omega) (by omega) ?_
              show W _ _ _ _ _ _ _ _ _ _ _ _ _ _ _ (F0 m 53 ls [.ref q41])
              have hxt : g_txt ca (cM L) w43 q41 [] := g_txt_nil (fun z9 => by obtain ⟨j9, hj9, e9⟩ := z9; obtain ⟨f9, hf9⟩ := hM_old.cell hj9; rw [← e9, hq42] at hf9; cases hf9) h45
              refine lv_astore (lv' := [(8, .ref q41), (7, .ref a), (0, .ref (L 0)), (1, .int 5), (2, .int (nI i)), (3, .int y), (4, .int kd), (5, .long x)]) hx hb d_GK_property_53 hl (by decide) rfl (fun ls hl => ?_)
              refine lv_iload hx hb d_GK_property_55 (lv_at hl 6 rfl) ?_
              refine lv_iconst (v := 3) hx hb d_GK_property_57 (by decide) ?_
              refine lv_icmp_ne (tgt := 68) hx hb d_GK_property_58 (by decide) (fun c58 => ?_) (fun c58 => ?_)
              · refine lv_lload hx hb d_GK_property_68 (lv_at hl 7 rfl) ?_
                refine lv_lstore (lv' := [(9, .long x), (8, .ref q41), (7, .ref a), (0, .ref (L 0)), (1, .int 5), (2, .int (nI i)), (3, .int y), (4, .int kd), (5, .long x)]) hx hb d_GK_property_70 hl (by decide) rfl (fun ls hl => ?_)
                refine lv_aload_n hx hb d_GK_property_72 rfl (lv_at hl 3 rfl) ?_
                refine lv_aload hx hb d_GK_property_73 (lv_at hl 2 rfl) ?_
                refine lv_iload_n hx hb d_GK_property_75 rfl (lv_at hl 5 rfl) ?_
                refine hv_new (ci := 4) (fs := [.int 0, .int 0, .long 0, .null]) (C := R_Pr) (T := F_Pr) (N := 4) hx hb hts i_Pr t_Pr t_Pr_ok hown (hts _ k_GK_59) (hts _ kin_Pr) (hts _ kn_Pr) hK hP hS hZ.2.1 rfl z_Pr (Nat.le_of_ble_eq_true rfl) (Nat.le_of_ble_eq_true rfl) d_GK_property_76 (fun q46 H hq47 hP hS => ?_)
                obtain ⟨w48, ew48⟩ : ∃ z9 : hv_W, z9 = va_up w43 q46 (some (.inr (4, [.int 0, .int 0, .long 0, .null]))) := ⟨_, rfl⟩
                have hP : hv_P D classes s0.heap.size w48 H := by rw [ew48]; exact hP
                have h49 : w48 q46 = some (.inr (4, [.int 0, .int 0, .long 0, .null])) := by rw [ew48]; exact hv_up_s
                refine W.widen (k := 5) (n := 22) (by omega) (by omega) ?_
                show W _ _ _ _ _ _ _ _ _ _ _ _ _ _ _ (F0 m 79 ls [.ref q46, .int (nI i), .ref a, .ref (L 0)])
                have hg50 : g_grow w43 w48 := g_grow.trans (g_grow.refl _) (by rw [ew48]; exact g_grow.new hq47)
                refine lv_dup hx hb d_GK_property_79 rfl ?_
                refine lv_iload_n hx hb d_GK_property_80 rfl (lv_at hl 6 rfl) ?_
                refine lv_iload hx hb d_GK_property_81 (lv_at hl 7 rfl) ?_
                refine lv_lload hx hb d_GK_property_83 (lv_at hl 0 rfl) ?_
                refine lv_aload hx hb d_GK_property_85 (lv_at hl 1 rfl) ?_
                refine hv_call (hv_runI (As := [.int y, .int kd, .long x, .ref q41]) (rest := [.ref q46, .int (nI i), .ref a, .ref (L 0)]) (c_Pr_init C y kd x h49) (hv_cw C hZ kc_Pr_init kn_Pr ⟨rfl, rfl, Nat.le_of_ble_eq_true rfl, Nat.le_of_ble_eq_true rfl⟩) hv_blind (hv_pre hZ hS hP) hx hml hb hown (hts _ k_GK_106) (hts _ ki_Pr_init) rfl hy_Pr_init (hts _ kc_Pr_init) rfl hl.1 rfl (lv_room (Nat.le_of_ble_eq_true rfl)) d_GK_property_87 ⟨Nat.le_of_ble_eq_true rfl, Nat.le_of_ble_eq_true rfl⟩) hZ hS (fun v9 w51 H locs q52 hP hS => ?_) (fun x9 w51 H locs q52 hP hS => q52.elim)
                obtain ⟨hv9, hu9⟩ := q52
                subst hv9
                have hg9 : g_grow w43 w51 := g_grow.upd hq47 hg50 hu9
                have hpp : g_prop ca (cM L) w51 q46 (y, kd, x, []) := ⟨hM.fresh hq47, q41, hu9.1, hxt.k hg9.keep⟩
                have hM : cK ca L w0 σ P w51 := hM.grow hg9
                have hR : cR ca L σ P w51 := hR.k hg9.keep
                obtain ⟨hma, pa, h0, hps⟩ := cG_linkAt hR.1 hi ha ht
                show W _ _ _ _ _ _ _ _ _ _ _ _ _ _ _ (F0 m 90 ls [.ref q46, .int (nI i), .ref a, .ref (L 0)])
                have h53 : w51 (L 0) = some (.inr (0, [.ref (L 1), .ref (L 2), .ref (L 3), .ref (L 4), .ref (L 5), .ref (L 6), .ref (L 7), .int (σ.err), .int (nI (σ.sc)), .int (nI (σ.ec)), .int (σ.ins), .int (σ.off)])) := hM.1.2 0 (by decide)
                refine hv_call (hv_runV (As := [.ref a, .int (nI i), .ref q46]) (rest := []) (c_GK_putPropertyL C N (σ := σ) hM hR hi ha ht hpl hpp (Nat.zero_le _) (fun p9 h9 => (hwt.2.2.2.2 p9 h9).1) hW.hb) (hv_cw C hZ kc_GK_putProperty kn_GK ⟨rfl, rfl, Nat.le_of_ble_eq_true rfl, Nat.le_of_ble_eq_true rfl⟩) hv_blind (hv_pre hZ hS hP) hx hml hb hown (hts _ k_GK_109) (hts _ ki_GK_putProperty) (hts _ ksel_GK_GK_putProperty) hy_GK_putProperty (hts _ kc_GK_putProperty) (va_recv hK (hv_one hP h53) (ci := 0) (q0 := 0) rfl rfl) rfl hl.1 rfl (lv_room (Nat.le_of_ble_eq_true rfl)) d_GK_property_90 ⟨Nat.le_of_ble_eq_true rfl, Nat.le_of_ble_eq_true rfl⟩) hZ hS (fun v9 w54 H locs q55 hP hS => ?_) (fun x9 w54 H locs q55 hP hS => ?_)
                · rcases q55 with ⟨hx0, hv9, hw9⟩ | ⟨hx2, hno9, hv9, hP9⟩
                  · subst hv9
                    rw [hw9] at hP
                    show W _ _ _ _ _ _ _ _ _ _ _ _ _ _ _ (F0 m 93 ls [.int 0])
                    refine W.widen (k := 9) (n := 69) (by omega) (by omega) ?_
                    exact hv_zret (v := 0) hQ hx hb hr (by decide) hZ hS hP hlocks d_GK_property_93 (by rw [x_property, cif_pos hoff, hf]; dsimp only; rw [cif_pos hok, cif_neg c22, cif_neg c37, x_put, cif_pos hx0]; exact ⟨rfl, rfl, P, hM, hR⟩)
                  · subst hv9
                    show W _ _ _ _ _ _ _ _ _ _ _ _ _ _ _ (F0 m 93 ls [.int 1])
                    refine W.widen (k := 9) (n := 69) (by omega) (by omega) ?_
                    exact hv_zret (v := 1) hQ hx hb hr (by decide) hZ hS hP hlocks d_GK_property_93 (by rw [x_property, cif_pos hoff, hf]; dsimp only; rw [cif_pos hok, cif_neg c22, cif_neg c37, x_put, cif_neg (by rw [hx2]; decide), cif_neg (by rw [hx2]; decide), cif_neg hno9]; exact ⟨rfl, rfl, hP9⟩)
                · rcases q55 with ⟨hx1, ht9⟩ | ⟨hx2, hge9, ht9⟩
                  · refine hv_Tw (k := 9) (n := 69) (by omega) (by omega) ?_
                    exact hv_tleave hQ hZ hS hP hlocks (hout _) (Or.inl (by rw [x_property, cif_pos hoff, hf]; dsimp only; rw [cif_pos hok, cif_neg c22, cif_neg c37, x_put, cif_neg (by rw [hx1]; decide), cif_pos hx1]; exact ⟨rfl, ht9⟩))
                  · refine hv_Tw (k := 9) (n := 69) (by omega) (by omega) ?_
                    exact hv_tleave hQ hZ hS hP hlocks (hout _) (Or.inl (by rw [x_property, cif_pos hoff, hf]; dsimp only; rw [cif_pos hok, cif_neg c22, cif_neg c37, x_put, cif_neg (by rw [hx2]; decide), cif_neg (by rw [hx2]; decide), cif_pos hge9]; exact ⟨rfl, ht9⟩))
              · exact absurd c58 c37
            · refine lv_aload_n hx hb d_GK_property_40 rfl (lv_at hl 1 rfl) ?_
              refine va_get (D := D) (ci := 0) (v := .ref (L 5)) (C := R_GK) (T := F_GK) (N := 12) hx hb hts i_GK hown hK (hv_one hP h1) 0 rfl rfl 4 (by decide) (hts _ k_GK_32) (fun _ h9 => h9) rfl d_GK_property_41 ?_
              have h56 : w (L 5) = some (.inr (3, [.ref (L 14), .int (nI (σ.tape).length)])) := hM.1.2 5 (by decide)
              have h57 : w (L 14) = some (.inl (ca 1, 24, .inl P.tb)) := hM.1.2 14 (by decide)
              refine hv_call (hv_runV (As := []) (rest := []) (c_Tp_pull C hM.mu h56 h57 hR.2.2.2.2.2 hW.tape hW.asc) (hv_cw C hZ kc_Tp_pull kn_Tp ⟨rfl, rfl, Nat.le_of_ble_eq_true rfl, Nat.le_of_ble_eq_true rfl⟩) hv_blind (hv_pre hZ hS hP) hx hml hb hown (hts _ k_GK_102) (hts _ ki_Tp_pull) (hts _ ksel_Tp_Tp_pull) hy_Tp_pull (hts _ kc_Tp_pull) (va_recv hK (hv_one hP h56) (ci := 3) (q0 := 0) rfl rfl) rfl hl.1 rfl (lv_room (Nat.le_of_ble_eq_true rfl)) d_GK_property_44 ⟨Nat.le_of_ble_eq_true rfl, Nat.le_of_ble_eq_true rfl⟩) hZ hS (fun v9 w58 H locs q59 hP hS => ?_) (fun x9 w58 H locs q59 hP hS => q59.elim)
              obtain ⟨tx, hv9, hxn, hxt, hx5, hxo⟩ := q59
              subst hv9
              have hk9 : g_keep (cM L) w w58 := g_keep.putNew (k := 5) (by decide) hxn hxo
              have hR9 := hR.k hk9
              have hM : cK ca L w0 (σ.sTape []) P w58 := hM.putNew 5 (by decide) hxn hx5 hxo rfl
              have hR : cR ca L (σ.sTape []) P w58 := ⟨hR9.1, hR9.2.1, hR9.2.2.1, hR9.2.2.2.1, hR9.2.2.2.2.1, fun _ h9 => absurd h9 (Nat.not_lt_zero _)⟩
              obtain ⟨hxm, xf9, hxc, hxe⟩ := id hxt
              show W _ _ _ _ _ _ _ _ _ _ _ _ _ _ _ (F0 m 47 ls [.ref tx])
              refine lv_goto (tgt := 53) hx hb d_GK_property_47 (by decide) ?_
              refine lv_astore (lv' := [(8, .ref tx), (7, .ref a), (0, .ref (L 0)), (1, .int 5), (2, .int (nI i)), (3, .int y), (4, .int kd), (5, .long x)]) hx hb d_GK_property_53 hl (by decide) rfl (fun ls hl => ?_)
              refine lv_iload hx hb d_GK_property_55 (lv_at hl 6 rfl) ?_
              refine lv_iconst (v := 3) hx hb d_GK_property_57 (by decide) ?_
              refine lv_icmp_ne (tgt := 68) hx hb d_GK_property_58 (by decide) (fun c58 => ?_) (fun c58 => ?_)
              · exact absurd c37 c58
              · refine lv_aload hx hb d_GK_property_61 (lv_at hl 0 rfl) ?_
                refine va_alen (v := nI (σ.tape.length)) hx hb hK (hv_one hP hxc) 0 1 rfl rfl rfl d_GK_property_63 ?_
                refine lv_i2l (v := (nI (σ.tape.length)).toInt64) hx hb d_GK_property_64 rfl ?_
                refine lv_goto (tgt := 70) hx hb d_GK_property_65 (by decide) ?_
                refine lv_lstore (lv' := [(9, .long ((nI (σ.tape.length)).toInt64)), (8, .ref tx), (7, .ref a), (0, .ref (L 0)), (1, .int 5), (2, .int (nI i)), (3, .int y), (4, .int kd), (5, .long x)]) hx hb d_GK_property_70 hl (by decide) rfl (fun ls hl => ?_)
                refine lv_aload_n hx hb d_GK_property_72 rfl (lv_at hl 3 rfl) ?_
                refine lv_aload hx hb d_GK_property_73 (lv_at hl 2 rfl) ?_
                refine lv_iload_n hx hb d_GK_property_75 rfl (lv_at hl 5 rfl) ?_
                refine hv_new (ci := 4) (fs := [.int 0, .int 0, .long 0, .null]) (C := R_Pr) (T := F_Pr) (N := 4) hx hb hts i_Pr t_Pr t_Pr_ok hown (hts _ k_GK_59) (hts _ kin_Pr) (hts _ kn_Pr) hK hP hS hZ.2.1 rfl z_Pr (Nat.le_of_ble_eq_true rfl) (Nat.le_of_ble_eq_true rfl) d_GK_property_76 (fun q60 H hq61 hP hS => ?_)
                obtain ⟨w62, ew62⟩ : ∃ z9 : hv_W, z9 = va_up w58 q60 (some (.inr (4, [.int 0, .int 0, .long 0, .null]))) := ⟨_, rfl⟩
                have hP : hv_P D classes s0.heap.size w62 H := by rw [ew62]; exact hP
                have h63 : w62 q60 = some (.inr (4, [.int 0, .int 0, .long 0, .null])) := by rw [ew62]; exact hv_up_s
                refine W.widen (k := 5) (n := 46) (by omega) (by omega) ?_
                show W _ _ _ _ _ _ _ _ _ _ _ _ _ _ _ (F0 m 79 ls [.ref q60, .int (nI i), .ref a, .ref (L 0)])
                have hg64 : g_grow w58 w62 := g_grow.trans (g_grow.refl _) (by rw [ew62]; exact g_grow.new hq61)
                refine lv_dup hx hb d_GK_property_79 rfl ?_
                refine lv_iload_n hx hb d_GK_property_80 rfl (lv_at hl 6 rfl) ?_
                refine lv_iload hx hb d_GK_property_81 (lv_at hl 7 rfl) ?_
                refine lv_lload hx hb d_GK_property_83 (lv_at hl 0 rfl) ?_
                refine lv_aload hx hb d_GK_property_85 (lv_at hl 1 rfl) ?_
                refine hv_call (hv_runI (As := [.int y, .int kd, .long ((nI (σ.tape.length)).toInt64), .ref tx]) (rest := [.ref q60, .int (nI i), .ref a, .ref (L 0)]) (c_Pr_init C y kd ((nI σ.tape.length).toInt64) h63) (hv_cw C hZ kc_Pr_init kn_Pr ⟨rfl, rfl, Nat.le_of_ble_eq_true rfl, Nat.le_of_ble_eq_true rfl⟩) hv_blind (hv_pre hZ hS hP) hx hml hb hown (hts _ k_GK_106) (hts _ ki_Pr_init) rfl hy_Pr_init (hts _ kc_Pr_init) rfl hl.1 rfl (lv_room (Nat.le_of_ble_eq_true rfl)) d_GK_property_87 ⟨Nat.le_of_ble_eq_true rfl, Nat.le_of_ble_eq_true rfl⟩) hZ hS (fun v9 w65 H locs q66 hP hS => ?_) (fun x9 w65 H locs q66 hP hS => q66.elim)
                obtain ⟨hv9, hu9⟩ := q66
                subst hv9
                have hg9 : g_grow w58 w65 := g_grow.upd hq61 hg64 hu9
                have hpp : g_prop ca (cM L) w65 q60 (y, kd, (nI σ.tape.length).toInt64, σ.tape) := ⟨hM.fresh hq61, tx, hu9.1, hxt.k hg9.keep⟩
                have hM : cK ca L w0 (σ.sTape []) P w65 := hM.grow hg9
                have hR : cR ca L (σ.sTape []) P w65 := hR.k hg9.keep
                obtain ⟨hma, pa, h0, hps⟩ := cG_linkAt hR.1 hi ha ht
                show W _ _ _ _ _ _ _ _ _ _ _ _ _ _ _ (F0 m 90 ls [.ref q60, .int (nI i), .ref a, .ref (L 0)])
                have h67 : w65 (L 0) = some (.inr (0, [.ref (L 1), .ref (L 2), .ref (L 3), .ref (L 4), .ref (L 5), .ref (L 6), .ref (L 7), .int ((σ.sTape []).err), .int (nI ((σ.sTape []).sc)), .int (nI ((σ.sTape []).ec)), .int ((σ.sTape []).ins), .int ((σ.sTape []).off)])) := hM.1.2 0 (by decide)
                refine hv_call (hv_runV (As := [.ref a, .int (nI i), .ref q60]) (rest := []) (c_GK_putPropertyL C N (σ := (σ.sTape [])) hM hR hi ha ht hpl hpp hW.tape (fun p9 h9 => (hwt.2.2.2.2 p9 h9).1) hW.hb) (hv_cw C hZ kc_GK_putProperty kn_GK ⟨rfl, rfl, Nat.le_of_ble_eq_true rfl, Nat.le_of_ble_eq_true rfl⟩) hv_blind (hv_pre hZ hS hP) hx hml hb hown (hts _ k_GK_109) (hts _ ki_GK_putProperty) (hts _ ksel_GK_GK_putProperty) hy_GK_putProperty (hts _ kc_GK_putProperty) (va_recv hK (hv_one hP h67) (ci := 0) (q0 := 0) rfl rfl) rfl hl.1 rfl (lv_room (Nat.le_of_ble_eq_true rfl)) d_GK_property_90 ⟨Nat.le_of_ble_eq_true rfl, Nat.le_of_ble_eq_true rfl⟩) hZ hS (fun v9 w68 H locs q69 hP hS => ?_) (fun x9 w68 H locs q69 hP hS => ?_)
                · rcases q69 with ⟨hx0, hv9, hw9⟩ | ⟨hx2, hno9, hv9, hP9⟩
                  · subst hv9
                    rw [hw9] at hP
                    show W _ _ _ _ _ _ _ _ _ _ _ _ _ _ _ (F0 m 93 ls [.int 0])
                    exact hv_zret (v := 0) hQ hx hb hr (by decide) hZ hS hP hlocks d_GK_property_93 (by rw [x_property, cif_pos hoff, hf]; dsimp only; rw [cif_pos hok, cif_neg c22, cif_pos c37, x_put, cif_pos hx0]; exact ⟨rfl, rfl, P, hM, hR⟩)
                  · subst hv9
                    show W _ _ _ _ _ _ _ _ _ _ _ _ _ _ _ (F0 m 93 ls [.int 1])
                    exact hv_zret (v := 1) hQ hx hb hr (by decide) hZ hS hP hlocks d_GK_property_93 (by rw [x_property, cif_pos hoff, hf]; dsimp only; rw [cif_pos hok, cif_neg c22, cif_pos c37, x_put, cif_neg (by rw [hx2]; decide), cif_neg (by rw [hx2]; decide), cif_neg hno9]; exact ⟨rfl, rfl, hP9⟩)
                · rcases q69 with ⟨hx1, ht9⟩ | ⟨hx2, hge9, ht9⟩
                  · exact hv_tleave hQ hZ hS hP hlocks (hout _) (Or.inl (by rw [x_property, cif_pos hoff, hf]; dsimp only; rw [cif_pos hok, cif_neg c22, cif_pos c37, x_put, cif_neg (by rw [hx1]; decide), cif_pos hx1]; exact ⟨rfl, ht9⟩))
                  · exact hv_tleave hQ hZ hS hP hlocks (hout _) (Or.inl (by rw [x_property, cif_pos hoff, hf]; dsimp only; rw [cif_pos hok, cif_neg c22, cif_pos c37, x_put, cif_neg (by rw [hx2]; decide), cif_neg (by rw [hx2]; decide), cif_pos hge9]; exact ⟨rfl, ht9⟩))
          · refine lv_aload_n hx hb d_GK_property_25 rfl (lv_at hl 1 rfl) ?_
            refine lv_aload hx hb d_GK_property_26 (lv_at hl 0 rfl) ?_
            refine lv_iload_n hx hb d_GK_property_28 rfl (lv_at hl 3 rfl) ?_
            refine lv_iload_n hx hb d_GK_property_29 rfl (lv_at hl 4 rfl) ?_
            refine hv_call (hv_runV (As := [.ref a, .int (nI i), .int y]) (rest := []) (c_GK_dropPropertyL C N hM hR hi ha ht hpl y hW.hb) (hv_cw C hZ kc_GK_dropProperty kn_GK ⟨rfl, rfl, Nat.le_of_ble_eq_true rfl, Nat.le_of_ble_eq_true rfl⟩) hv_blind (hv_pre hZ hS hP) hx hml hb hown (hts _ k_GK_98) (hts _ ki_GK_dropProperty) (hts _ ksel_GK_GK_dropProperty) hy_GK_dropProperty (hts _ kc_GK_dropProperty) (va_recv hK (hv_one hP h1) (ci := 0) (q0 := 0) rfl rfl) rfl hl.1 rfl (lv_room (Nat.le_of_ble_eq_true rfl)) d_GK_property_30 ⟨Nat.le_of_ble_eq_true rfl, Nat.le_of_ble_eq_true rfl⟩) hZ hS (fun v9 w70 H locs q71 hP hS => ?_) (fun x9 w70 H locs q71 hP hS => ?_)
            · rcases q71 with ⟨hlo9, hv9, hw9⟩ | ⟨o9, hlo9, hno9, hv9, hP9⟩
              · subst hv9
                rw [hw9] at hP
                show W _ _ _ _ _ _ _ _ _ _ _ _ _ _ _ (F0 m 33 ls [.int 0])
                refine W.widen (k := 9) (n := 69) (by omega) (by omega) ?_
                exact hv_zret (v := 0) hQ hx hb hr (by decide) hZ hS hP hlocks d_GK_property_33 (by rw [x_property, cif_pos hoff, hf]; dsimp only; rw [cif_pos hok, cif_pos c22, x_drp, hlo9]; exact ⟨rfl, rfl, P, hM, hR⟩)
              · subst hv9
                show W _ _ _ _ _ _ _ _ _ _ _ _ _ _ _ (F0 m 33 ls [.int 1])
                refine W.widen (k := 9) (n := 69) (by omega) (by omega) ?_
                exact hv_zret (v := 1) hQ hx hb hr (by decide) hZ hS hP hlocks d_GK_property_33 (by rw [x_property, cif_pos hoff, hf]; dsimp only; rw [cif_pos hok, cif_pos c22, x_drp, hlo9]; dsimp only; rw [cif_neg hno9]; exact ⟨rfl, rfl, hP9⟩)
            · obtain ⟨o9, hlo9, hge9, ht9⟩ := q71
              refine hv_Tw (k := 9) (n := 69) (by omega) (by omega) ?_
              exact hv_tleave hQ hZ hS hP hlocks (hout _) (Or.inl (by rw [x_property, cif_pos hoff, hf]; dsimp only; rw [cif_pos hok, cif_pos c22, x_drp, hlo9]; dsimp only; rw [cif_pos hge9]; exact ⟨rfl, ht9⟩))
        · refine hv_Tw (k := 9) (n := 69) (by omega) (by omega) ?_
          exact hv_tleave hQ hZ hS hP hlocks (hout _) (Or.inl (by rw [x_property, cif_pos hoff, hf]; dsimp only; rw [cif_neg q40.1]; exact ⟨rfl, q40.2⟩))
    · refine hv_Tw (k := 9) (n := 69) (by omega) (by omega) ?_
      exact hv_tleave hQ hZ hS hP hlocks (hout _) (Or.inl (by rw [x_property, cif_pos hoff, gk_thing_none hR.1 q5.1]; exact ⟨rfl, q5.2⟩))
  · refine hv_Tw (k := 9) (n := 69) (by omega) (by omega) ?_
    exact hv_tleave hQ hZ hS hP hlocks (hout _) (Or.inr (by rw [x_property, cif_neg q3.1]; exact ⟨rfl, q3.2⟩))

abbrev rm_GK_take : Room := { frames := 9, cells := 3, slots := 18, locals := 144 }
set_option maxHeartbeats 4000000 in
set_option maxRecDepth 100000 in
theorem c_GK_take {l : Launch} {s0 : State} {D : va_G} {ca : Nat → ClassId} (C : hv_C l s0 D (hv_tys ca)) {w : hv_W} (N : hv_N s0) {L : Nat → Nat} {w0 : hv_W} {σ : gS} {P : cT} (k n : Int32) (hM : cK ca L w0 σ P w) (hR : cR ca L σ P w) (hW : gW σ)  :
    hv_Met l y_GK_take [.code y_GK_take b_GK_take 3 none] rm_GK_take (hv_Pc s0 D w [.ref (L 0), .int k, .int n]) (hv_Q s0 D (fun v w' => (x_take σ k n).2.1 = 0 ∧ v = none ∧ cP ca L w0 (x_take σ k n).1 w') (fun x w' => cEx ca L w0 (x_take σ k n) x w')) 3 18 (hv_A s0.heap.size) := by
  refine hv_enter C _ (by decide) (Nat.le_of_ble_eq_true rfl) ?_
  intro p e s m below meth c ls Q hQ hx hb hr hml hown hts hK hZ hlocks hname hout htr hP hl
  have hown : s.vm.findClass R_GK = some m.cls := hown
  have hS : va_S (hv_A s0.heap.size) s.heap s.heap [] := va_S.rf
  have hl : lv_has ls 3 [(0, .ref (L 0)), (1, .int k), (2, .int n)] := hl
  refine lv_aload_n hx hb d_GK_take_0 rfl (lv_at hl 0 rfl) ?_
  have h1 : w (L 0) = some (.inr (0, [.ref (L 1), .ref (L 2), .ref (L 3), .ref (L 4), .ref (L 5), .ref (L 6), .ref (L 7), .int (σ.err), .int (nI (σ.sc)), .int (nI (σ.ec)), .int (σ.ins), .int (σ.off)])) := hM.1.2 0 (by decide)
  refine hv_call (hv_runV (As := []) (rest := []) (c_GK_mustBeOn C N hM hR) (hv_cw C hZ kc_GK_mustBeOn kn_GK ⟨rfl, rfl, Nat.le_of_ble_eq_true rfl, Nat.le_of_ble_eq_true rfl⟩) hv_blind (hv_pre hZ hS hP) hx hml hb hown (hts _ k_GK_47) (hts _ ki_GK_mustBeOn) (hts _ ksel_GK_GK_mustBeOn) hy_GK_mustBeOn (hts _ kc_GK_mustBeOn) (va_recv hK (hv_one hP h1) (ci := 0) (q0 := 0) rfl rfl) rfl hl.1 rfl (lv_room (Nat.le_of_ble_eq_true rfl)) d_GK_take_1 ⟨Nat.le_of_ble_eq_true rfl, Nat.le_of_ble_eq_true rfl⟩) hZ hS (fun v9 w2 H locs q3 hP hS => ?_) (fun x9 w2 H locs q3 hP hS => ?_)
  · obtain ⟨hoff, hv9, hw9⟩ := q3
    subst hv9
    rw [hw9] at hP
    show W _ _ _ _ _ _ _ _ _ _ _ _ _ _ _ (F0 m 4 ls [])
    refine lv_aload_n hx hb d_GK_take_4 rfl (lv_at hl 0 rfl) ?_
    refine lv_iload_n hx hb d_GK_take_5 rfl (lv_at hl 1 rfl) ?_
    refine lv_iload_n hx hb d_GK_take_6 rfl (lv_at hl 2 rfl) ?_
    refine hv_call (hv_runV (As := [.int k, .int n]) (rest := []) (c_GK_wantedThing C N k n hM hR) (hv_cw C hZ kc_GK_wantedThing kn_GK ⟨rfl, rfl, Nat.le_of_ble_eq_true rfl, Nat.le_of_ble_eq_true rfl⟩) hv_blind (hv_pre hZ hS hP) hx hml hb hown (hts _ k_GK_90) (hts _ ki_GK_wantedThing) (hts _ ksel_GK_GK_wantedThing) hy_GK_wantedThing (hts _ kc_GK_wantedThing) (va_recv hK (hv_one hP h1) (ci := 0) (q0 := 0) rfl rfl) rfl hl.1 rfl (lv_room (Nat.le_of_ble_eq_true rfl)) d_GK_take_7 ⟨Nat.le_of_ble_eq_true rfl, Nat.le_of_ble_eq_true rfl⟩) hZ hS (fun v9 w4 H locs q5 hP hS => ?_) (fun x9 w4 H locs q5 hP hS => ?_)
    · obtain ⟨a, hth, hv9, hw9⟩ := q5
      subst hv9
      rw [hw9] at hP
      show W _ _ _ _ _ _ _ _ _ _ _ _ _ _ _ (F0 m 10 ls [.ref a])
      rcases (gk_thing_someE hR.1 hth) with ⟨hk4, hs⟩ | ⟨hk4, hs⟩
      · subst hk4
        obtain ⟨i, t, hi, he, ha, ht, hf, -⟩ := gk_sel_someN hR.1 hs
        subst he
        have hwt := hW.t (by omega) ht
        have hpl : t.ps.length ≤ 6 := hwt.2.2.1
        show W _ _ _ _ _ _ _ _ _ _ _ _ _ _ _ (F0 m 10 ls [.ref a])
        refine lv_pop hx hb d_GK_take_10 rfl ?_
        refine lv_iload_n hx hb d_GK_take_11 rfl (lv_at hl 1 rfl) ?_
        refine lv_iconst (v := 4) hx hb d_GK_take_12 (by decide) ?_
        refine lv_icmp_ne (tgt := 24) hx hb d_GK_take_13 (by decide) (fun c13 => ?_) (fun c13 => ?_)
        · exact absurd rfl c13
        · refine lv_aload_n hx hb d_GK_take_16 rfl (lv_at hl 0 rfl) ?_
          refine lv_iload_n hx hb d_GK_take_17 rfl (lv_at hl 2 rfl) ?_
          refine hv_call (hv_runV (As := [.int (nI i)]) (rest := []) (c_GK_takeNode C N hi hM hR hW.hb) (hv_cw C hZ kc_GK_takeNode kn_GK ⟨rfl, rfl, Nat.le_of_ble_eq_true rfl, Nat.le_of_ble_eq_true rfl⟩) hv_blind (hv_pre hZ hS hP) hx hml hb hown (hts _ k_GK_122) (hts _ ki_GK_takeNode) (hts _ ksel_GK_GK_takeNode) hy_GK_takeNode (hts _ kc_GK_takeNode) (va_recv hK (hv_one hP h1) (ci := 0) (q0 := 0) rfl rfl) rfl hl.1 rfl (lv_room (Nat.le_of_ble_eq_true rfl)) d_GK_take_18 ⟨Nat.le_of_ble_eq_true rfl, Nat.le_of_ble_eq_true rfl⟩) hZ hS (fun v9 w6 H locs q7 hP hS => ?_) (fun x9 w6 H locs q7 hP hS => ?_)
          · obtain ⟨hz9, hno9, hv9, hP9⟩ := q7
            subst hv9
            show W _ _ _ _ _ _ _ _ _ _ _ _ _ _ _ (F0 m 21 ls [])
            refine lv_goto (tgt := 29) hx hb d_GK_take_21 (by decide) ?_
            exact hv_vret hQ hx hb hr hZ hS hP hlocks d_GK_take_29 (by rw [x_take, cif_pos hoff, hf]; dsimp only; rw [cif_neg (fun z => z.2 hz9), cif_neg hno9]; exact ⟨rfl, rfl, hP9⟩)
          · rcases q7 with ⟨hz9, ht9⟩ | ⟨hz9, hge9, ht9⟩
            · exact hv_tleave hQ hZ hS hP hlocks (hout _) (Or.inl (by rw [x_take, cif_pos hoff, hf]; dsimp only; rw [cif_pos ⟨rfl, hz9⟩]; exact ⟨rfl, ht9⟩))
            · exact hv_tleave hQ hZ hS hP hlocks (hout _) (Or.inl (by rw [x_take, cif_pos hoff, hf]; dsimp only; rw [cif_neg (fun z => z.2 hz9), cif_pos hge9]; exact ⟨rfl, ht9⟩))
      · subst hk4
        obtain ⟨i, t, hi, he, ha, ht, hf, -⟩ := gk_sel_someL hR.1 hs
        subst he
        have hwt := hW.t (by omega) ht
        have hpl : t.ps.length ≤ 6 := hwt.2.2.1
        show W _ _ _ _ _ _ _ _ _ _ _ _ _ _ _ (F0 m 10 ls [.ref a])
        refine lv_pop hx hb d_GK_take_10 rfl ?_
        refine lv_iload_n hx hb d_GK_take_11 rfl (lv_at hl 1 rfl) ?_
        refine lv_iconst (v := 4) hx hb d_GK_take_12 (by decide) ?_
        refine lv_icmp_ne (tgt := 24) hx hb d_GK_take_13 (by decide) (fun c13 => ?_) (fun c13 => ?_)
        · refine lv_aload_n hx hb d_GK_take_24 rfl (lv_at hl 0 rfl) ?_
          refine lv_iload_n hx hb d_GK_take_25 rfl (lv_at hl 2 rfl) ?_
          refine hv_call (hv_runV (As := [.int (nI i)]) (rest := []) (c_GK_takeLink C N hi hM hR hW.hb) (hv_cw C hZ kc_GK_takeLink kn_GK ⟨rfl, rfl, Nat.le_of_ble_eq_true rfl, Nat.le_of_ble_eq_true rfl⟩) hv_blind (hv_pre hZ hS hP) hx hml hb hown (hts _ k_GK_126) (hts _ ki_GK_takeLink) (hts _ ksel_GK_GK_takeLink) hy_GK_takeLink (hts _ kc_GK_takeLink) (va_recv hK (hv_one hP h1) (ci := 0) (q0 := 0) rfl rfl) rfl hl.1 rfl (lv_room (Nat.le_of_ble_eq_true rfl)) d_GK_take_26 ⟨Nat.le_of_ble_eq_true rfl, Nat.le_of_ble_eq_true rfl⟩) hZ hS (fun v9 w8 H locs q9 hP hS => ?_) (fun x9 w8 H locs q9 hP hS => ?_)
          · obtain ⟨hno9, hv9, hP9⟩ := q9
            subst hv9
            show W _ _ _ _ _ _ _ _ _ _ _ _ _ _ _ (F0 m 29 ls [])
            exact hv_vret hQ hx hb hr hZ hS hP hlocks d_GK_take_29 (by rw [x_take, cif_pos hoff, hf]; dsimp only; rw [cif_neg (fun z => absurd z.1 (by decide)), cif_neg hno9]; exact ⟨rfl, rfl, hP9⟩)
          · exact hv_tleave hQ hZ hS hP hlocks (hout _) (Or.inl (by rw [x_take, cif_pos hoff, hf]; dsimp only; rw [cif_neg (fun z => absurd z.1 (by decide)), cif_pos q9.1]; exact ⟨rfl, q9.2⟩))
        · exact absurd c13 (by decide)
    · refine hv_Tw (k := 3) (n := 18) (by omega) (by omega) ?_
      exact hv_tleave hQ hZ hS hP hlocks (hout _) (Or.inl (by rw [x_take, cif_pos hoff, gk_thing_none hR.1 q5.1]; exact ⟨rfl, q5.2⟩))
  · refine hv_Tw (k := 3) (n := 18) (by omega) (by omega) ?_
    exact hv_tleave hQ hZ hS hP hlocks (hout _) (Or.inr (by rw [x_take, cif_neg q3.1]; exact ⟨rfl, q3.2⟩))

abbrev rm_GK_error : Room := { frames := 0, cells := 0, slots := 0, locals := 0 }
set_option maxHeartbeats 4000000 in
set_option maxRecDepth 100000 in
theorem c_GK_error {l : Launch} {s0 : State} {D : va_G} {ca : Nat → ClassId} (C : hv_C l s0 D (hv_tys ca)) {w : hv_W} (N : hv_N s0) {L : Nat → Nat} {w0 : hv_W} {σ : gS} {P : cT} (hM : cK ca L w0 σ P w) (hR : cR ca L σ P w)  :
    hv_Met l y_GK_error [.code y_GK_error b_GK_error 1 (some .int)] rm_GK_error (hv_Pc s0 D w [.ref (L 0)]) (hv_Q s0 D (fun v w' => v = some (.int σ.err) ∧ w' = w) (fun _ _ => False)) 0 0 (hv_A s0.heap.size) := by
  refine hv_enter C _ (by decide) (Nat.le_of_ble_eq_true rfl) ?_
  intro p e s m below meth c ls Q hQ hx hb hr hml hown hts hK hZ hlocks hname hout htr hP hl
  have hown : s.vm.findClass R_GK = some m.cls := hown
  have hS : va_S (hv_A s0.heap.size) s.heap s.heap [] := va_S.rf
  have hl : lv_has ls 1 [(0, .ref (L 0))] := hl
  refine lv_aload_n hx hb d_GK_error_0 rfl (lv_at hl 0 rfl) ?_
  have h1 : w (L 0) = some (.inr (0, [.ref (L 1), .ref (L 2), .ref (L 3), .ref (L 4), .ref (L 5), .ref (L 6), .ref (L 7), .int (σ.err), .int (nI (σ.sc)), .int (nI (σ.ec)), .int (σ.ins), .int (σ.off)])) := hM.1.2 0 (by decide)
  refine va_get (D := D) (ci := 0) (v := .int (σ.err)) (C := R_GK) (T := F_GK) (N := 12) hx hb hts i_GK hown hK (hv_one hP h1) 0 rfl rfl 7 (by decide) (hts _ k_GK_129) (fun _ h9 => h9) rfl d_GK_error_1 ?_
  exact hv_iret (v := σ.err) hQ hx hb hr hZ hS hP hlocks d_GK_error_4 (⟨rfl, rfl⟩)

abbrev rm_GK_done : Room := { frames := 7, cells := 2, slots := 12, locals := 103 }
set_option maxHeartbeats 4000000 in
set_option maxRecDepth 100000 in
theorem c_GK_done {l : Launch} {s0 : State} {D : va_G} {ca : Nat → ClassId} (C : hv_C l s0 D (hv_tys ca)) {w : hv_W} (N : hv_N s0) {L : Nat → Nat} {w0 : hv_W} {σ : gS} {P : cT} (hM : cK ca L w0 σ P w) (hR : cR ca L σ P w) (hW : gW σ)  :
    hv_Met l y_GK_done [.code y_GK_done b_GK_done 2 (some .int)] rm_GK_done (hv_Pc s0 D w [.ref (L 0)]) (hv_Q s0 D (fun v w' => cRet ca L w0 (x_done σ) v w') (fun x w' => cEx ca L w0 (x_done σ) x w')) 2 12 (hv_A s0.heap.size) := by
  refine hv_enter C _ (by decide) (Nat.le_of_ble_eq_true rfl) ?_
  intro p e s m below meth c ls Q hQ hx hb hr hml hown hts hK hZ hlocks hname hout htr hP hl
  have hown : s.vm.findClass R_GK = some m.cls := hown
  have hS : va_S (hv_A s0.heap.size) s.heap s.heap [] := va_S.rf
  have hl : lv_has ls 2 [(0, .ref (L 0))] := hl
  have hb9 := hW.hb
  have hsc : σ.sc ≤ 249 := by omega
  have hen : σ.en ≤ 250 := hW.2.2.1.2.1
  have hdu : σ.due ≤ 2000 := hW.2.2.1.2.2.2
  refine lv_aload_n hx hb d_GK_done_0 rfl (lv_at hl 0 rfl) ?_
  have h1 : w (L 0) = some (.inr (0, [.ref (L 1), .ref (L 2), .ref (L 3), .ref (L 4), .ref (L 5), .ref (L 6), .ref (L 7), .int (σ.err), .int (nI (σ.sc)), .int (nI (σ.ec)), .int (σ.ins), .int (σ.off)])) := hM.1.2 0 (by decide)
  refine hv_call (hv_runV (As := []) (rest := []) (c_GK_mustBeOn C N hM hR) (hv_cw C hZ kc_GK_mustBeOn kn_GK ⟨rfl, rfl, Nat.le_of_ble_eq_true rfl, Nat.le_of_ble_eq_true rfl⟩) hv_blind (hv_pre hZ hS hP) hx hml hb hown (hts _ k_GK_47) (hts _ ki_GK_mustBeOn) (hts _ ksel_GK_GK_mustBeOn) hy_GK_mustBeOn (hts _ kc_GK_mustBeOn) (va_recv hK (hv_one hP h1) (ci := 0) (q0 := 0) rfl rfl) rfl hl.1 rfl (lv_room (Nat.le_of_ble_eq_true rfl)) d_GK_done_1 ⟨Nat.le_of_ble_eq_true rfl, Nat.le_of_ble_eq_true rfl⟩) hZ hS (fun v9 w2 H locs q3 hP hS => ?_) (fun x9 w2 H locs q3 hP hS => ?_)
  · obtain ⟨hoff, hv9, hw9⟩ := q3
    subst hv9
    rw [hw9] at hP
    show W _ _ _ _ _ _ _ _ _ _ _ _ _ _ _ (F0 m 4 ls [])
    refine lv_aload_n hx hb d_GK_done_4 rfl (lv_at hl 0 rfl) ?_
    refine va_get (D := D) (ci := 0) (v := .int (nI (σ.sc))) (C := R_GK) (T := F_GK) (N := 12) hx hb hts i_GK hown hK (hv_one hP h1) 0 rfl rfl 8 (by decide) (hts _ k_GK_133) (fun _ h9 => h9) rfl d_GK_done_5 ?_
    refine lv_istore_n (lv' := [(1, .int (nI (σ.sc))), (0, .ref (L 0))]) hx hb d_GK_done_8 rfl hl (by decide) rfl (fun ls hl => ?_)
    refine lv_aload_n hx hb d_GK_done_9 rfl (lv_at hl 1 rfl) ?_
    refine va_get (D := D) (ci := 0) (v := .int (σ.ins)) (C := R_GK) (T := F_GK) (N := 12) hx hb hts i_GK hown hK (hv_one hP h1) 0 rfl rfl 10 (by decide) (hts _ k_GK_136) (fun _ h9 => h9) rfl d_GK_done_10 ?_
    refine lv_if_ne (tgt := 47) hx hb d_GK_done_13 (by decide) (fun c13 => ?_) (fun c13 => ?_)
    · refine lv_aload_n hx hb d_GK_done_47 rfl (lv_at hl 1 rfl) ?_
      refine va_get (D := D) (ci := 0) (v := .int (σ.ins)) (C := R_GK) (T := F_GK) (N := 12) hx hb hts i_GK hown hK (hv_one hP h1) 0 rfl rfl 10 (by decide) (hts _ k_GK_136) (fun _ h9 => h9) rfl d_GK_done_48 ?_
      refine lv_if_ne (tgt := 59) hx hb d_GK_done_51 (by decide) (fun c51 => ?_) (fun c51 => ?_)
      · refine lv_aload_n hx hb d_GK_done_59 rfl (lv_at hl 1 rfl) ?_
        refine hv_call (hv_runV (As := []) (rest := []) (c_GK_closeStatement C N hM hR hb9) (hv_cw C hZ kc_GK_closeStatement kn_GK ⟨rfl, rfl, Nat.le_of_ble_eq_true rfl, Nat.le_of_ble_eq_true rfl⟩) hv_blind (hv_pre hZ hS hP) hx hml hb hown (hts _ k_GK_156) (hts _ ki_GK_closeStatement) (hts _ ksel_GK_GK_closeStatement) hy_GK_closeStatement (hts _ kc_GK_closeStatement) (va_recv hK (hv_one hP h1) (ci := 0) (q0 := 0) rfl rfl) rfl hl.1 rfl (lv_room (Nat.le_of_ble_eq_true rfl)) d_GK_done_60 ⟨Nat.le_of_ble_eq_true rfl, Nat.le_of_ble_eq_true rfl⟩) hZ hS (fun v9 w4 H locs q5 hP hS => ?_) (fun x9 w4 H locs q5 hP hS => q5.elim)
        obtain ⟨hv9, P2, hM, hR⟩ := q5
        subst hv9
        show W _ _ _ _ _ _ _ _ _ _ _ _ _ _ _ (F0 m 63 ls [])
        refine lv_iload_n hx hb d_GK_done_63 rfl (lv_at hl 0 rfl) ?_
        refine W.widen (k := 2) (n := 12) (by omega) (by omega) ?_
        exact hv_iret (v := nI (σ.sc)) hQ hx hb hr hZ hS hP hlocks d_GK_done_64 (by rw [x_done, cif_pos hoff, cif_neg (fun z => c13 z.1), cif_neg (fun z => c13 z.1), cif_neg (fun z => c13 z.1)]; exact ⟨rfl, rfl, _, hM, hR⟩)
      · exact absurd c51 c13
    · refine lv_aload_n hx hb d_GK_done_16 rfl (lv_at hl 1 rfl) ?_
      refine va_get (D := D) (ci := 0) (v := .ref (L 4)) (C := R_GK) (T := F_GK) (N := 12) hx hb hts i_GK hown hK (hv_one hP h1) 0 rfl rfl 3 (by decide) (hts _ k_GK_25) (fun _ h9 => h9) rfl d_GK_done_17 ?_
      refine lv_iload_n hx hb d_GK_done_20 rfl (lv_at hl 0 rfl) ?_
      have h6 : w (L 4) = some (.inr (2, [.int (σ.wr), .int (nI (σ.en)), .int (nI (σ.lo)), .int (σ.tr), .int (nI (σ.due))])) := hM.1.2 4 (by decide)
      refine hv_call (hv_runV (As := [.int (nI (σ.sc))]) (rest := []) (c_Lg_hasRoom C (nI (σ.sc)) h6) (hv_cw C hZ kc_Lg_hasRoom kn_Lg ⟨rfl, rfl, Nat.le_of_ble_eq_true rfl, Nat.le_of_ble_eq_true rfl⟩) hv_blind (hv_pre hZ hS hP) hx hml hb hown (hts _ k_GK_140) (hts _ ki_Lg_hasRoom) (hts _ ksel_Lg_Lg_hasRoom) hy_Lg_hasRoom (hts _ kc_Lg_hasRoom) (va_recv hK (hv_one hP h6) (ci := 2) (q0 := 0) rfl rfl) rfl hl.1 rfl (lv_room (Nat.le_of_ble_eq_true rfl)) d_GK_done_21 ⟨Nat.le_of_ble_eq_true rfl, Nat.le_of_ble_eq_true rfl⟩) hZ hS (fun v9 w7 H locs q8 hP hS => ?_) (fun x9 w7 H locs q8 hP hS => q8.elim)
      obtain ⟨hv9, hw9⟩ := q8
      subst hv9
      rw [hw9] at hP
      show W _ _ _ _ _ _ _ _ _ _ _ _ _ _ _ (F0 m 24 ls [.int (if 250 < nI σ.en + lg_wf (nI (σ.sc)) then 0 else 1)])
      refine lv_if_ne (tgt := 47) hx hb d_GK_done_24 (by decide) (fun c24 => ?_) (fun c24 => ?_)
      · have hrm : x_room σ σ.sc := Classical.byContradiction fun z => c24 (if_pos ((x_room_iff hen hsc).mpr z))
        refine lv_aload_n hx hb d_GK_done_47 rfl (lv_at hl 1 rfl) ?_
        refine va_get (D := D) (ci := 0) (v := .int (σ.ins)) (C := R_GK) (T := F_GK) (N := 12) hx hb hts i_GK hown hK (hv_one hP h1) 0 rfl rfl 10 (by decide) (hts _ k_GK_136) (fun _ h9 => h9) rfl d_GK_done_48 ?_
        refine lv_if_ne (tgt := 59) hx hb d_GK_done_51 (by decide) (fun c51 => ?_) (fun c51 => ?_)
        · exact absurd c13 c51
        · refine lv_aload_n hx hb d_GK_done_54 rfl (lv_at hl 1 rfl) ?_
          refine lv_iload_n hx hb d_GK_done_55 rfl (lv_at hl 0 rfl) ?_
          refine hv_call (hv_runV (As := [.int (nI (σ.sc))]) (rest := []) (c_GK_keep C N σ.sc hM hR hsc hdu hen) (hv_cw C hZ kc_GK_keep kn_GK ⟨rfl, rfl, Nat.le_of_ble_eq_true rfl, Nat.le_of_ble_eq_true rfl⟩) hv_blind (hv_pre hZ hS hP) hx hml hb hown (hts _ k_GK_153) (hts _ ki_GK_keep) (hts _ ksel_GK_GK_keep) hy_GK_keep (hts _ kc_GK_keep) (va_recv hK (hv_one hP h1) (ci := 0) (q0 := 0) rfl rfl) rfl hl.1 rfl (lv_room (Nat.le_of_ble_eq_true rfl)) d_GK_done_56 ⟨Nat.le_of_ble_eq_true rfl, Nat.le_of_ble_eq_true rfl⟩) hZ hS (fun v9 w9 H locs q10 hP hS => ?_) (fun x9 w9 H locs q10 hP hS => ?_)
          · obtain ⟨hv9, hq9⟩ := q10
            subst hv9
            rcases hq9 with ⟨hk9, hw9⟩ | ⟨hk9, hcu9, hP9⟩
            · rw [hw9] at hP
              show W _ _ _ _ _ _ _ _ _ _ _ _ _ _ _ (F0 m 59 ls [])
              refine lv_aload_n hx hb d_GK_done_59 rfl (lv_at hl 1 rfl) ?_
              refine hv_call (hv_runV (As := []) (rest := []) (c_GK_closeStatement C N hM hR hb9) (hv_cw C hZ kc_GK_closeStatement kn_GK ⟨rfl, rfl, Nat.le_of_ble_eq_true rfl, Nat.le_of_ble_eq_true rfl⟩) hv_blind (hv_pre hZ hS hP) hx hml hb hown (hts _ k_GK_156) (hts _ ki_GK_closeStatement) (hts _ ksel_GK_GK_closeStatement) hy_GK_closeStatement (hts _ kc_GK_closeStatement) (va_recv hK (hv_one hP h1) (ci := 0) (q0 := 0) rfl rfl) rfl hl.1 rfl (lv_room (Nat.le_of_ble_eq_true rfl)) d_GK_done_60 ⟨Nat.le_of_ble_eq_true rfl, Nat.le_of_ble_eq_true rfl⟩) hZ hS (fun v9 w11 H locs q12 hP hS => ?_) (fun x9 w11 H locs q12 hP hS => q12.elim)
              obtain ⟨hv9, P2, hM, hR⟩ := q12
              subst hv9
              show W _ _ _ _ _ _ _ _ _ _ _ _ _ _ _ (F0 m 63 ls [])
              refine lv_iload_n hx hb d_GK_done_63 rfl (lv_at hl 0 rfl) ?_
              exact hv_iret (v := nI (σ.sc)) hQ hx hb hr hZ hS hP hlocks d_GK_done_64 (by rw [x_done, cif_pos hoff, cif_neg (fun z => z.2 hrm), cif_neg (fun z => absurd z.2.1 (by omega)), cif_neg (fun z => absurd z.2 (by omega))]; exact ⟨rfl, rfl, _, hM, hR⟩)
            · obtain ⟨P1, hM, hR⟩ := hP9
              show W _ _ _ _ _ _ _ _ _ _ _ _ _ _ _ (F0 m 59 ls [])
              refine lv_aload_n hx hb d_GK_done_59 rfl (lv_at hl 1 rfl) ?_
              have h13 : w9 (L 0) = some (.inr (0, [.ref (L 1), .ref (L 2), .ref (L 3), .ref (L 4), .ref (L 5), .ref (L 6), .ref (L 7), .int ((s_keepO σ σ.sc).err), .int (nI ((s_keepO σ σ.sc).sc)), .int (nI ((s_keepO σ σ.sc).ec)), .int ((s_keepO σ σ.sc).ins), .int ((s_keepO σ σ.sc).off)])) := hM.1.2 0 (by decide)
              refine hv_call (hv_runV (As := []) (rest := []) (c_GK_closeStatement C N hM hR hb9) (hv_cw C hZ kc_GK_closeStatement kn_GK ⟨rfl, rfl, Nat.le_of_ble_eq_true rfl, Nat.le_of_ble_eq_true rfl⟩) hv_blind (hv_pre hZ hS hP) hx hml hb hown (hts _ k_GK_156) (hts _ ki_GK_closeStatement) (hts _ ksel_GK_GK_closeStatement) hy_GK_closeStatement (hts _ kc_GK_closeStatement) (va_recv hK (hv_one hP h13) (ci := 0) (q0 := 0) rfl rfl) rfl hl.1 rfl (lv_room (Nat.le_of_ble_eq_true rfl)) d_GK_done_60 ⟨Nat.le_of_ble_eq_true rfl, Nat.le_of_ble_eq_true rfl⟩) hZ hS (fun v9 w14 H locs q15 hP hS => ?_) (fun x9 w14 H locs q15 hP hS => q15.elim)
              obtain ⟨hv9, P2, hM, hR⟩ := q15
              subst hv9
              show W _ _ _ _ _ _ _ _ _ _ _ _ _ _ _ (F0 m 63 ls [])
              refine lv_iload_n hx hb d_GK_done_63 rfl (lv_at hl 0 rfl) ?_
              exact hv_iret (v := nI (σ.sc)) hQ hx hb hr hZ hS hP hlocks d_GK_done_64 (by rw [x_done, cif_pos hoff, cif_neg (fun z => z.2 hrm), cif_neg (fun z => hcu9 z.2.2), cif_pos ⟨c13, hk9⟩]; exact ⟨rfl, rfl, _, hM, hR⟩)
          · exact hv_tleave hQ hZ hS hP hlocks (hout _) (Or.inr (by rw [x_done, cif_pos hoff, cif_neg (fun z => z.2 hrm), cif_pos ⟨c13, q10.1, q10.2.1⟩]; exact ⟨rfl, q10.2.2⟩))
      · have hrm : ¬ x_room σ σ.sc := (x_room_iff hen hsc).mp (Classical.byContradiction fun z => by rw [if_neg z] at c24; exact absurd c24 (by decide))
        refine lv_aload_n hx hb d_GK_done_27 rfl (lv_at hl 1 rfl) ?_
        refine hv_call (hv_runV (As := []) (rest := []) (c_GK_undoStatement C N hM hR hb9 hW.un) (hv_cw C hZ kc_GK_undoStatement kn_GK ⟨rfl, rfl, Nat.le_of_ble_eq_true rfl, Nat.le_of_ble_eq_true rfl⟩) hv_blind (hv_pre hZ hS hP) hx hml hb hown (hts _ k_GK_143) (hts _ ki_GK_undoStatement) (hts _ ksel_GK_GK_undoStatement) hy_GK_undoStatement (hts _ kc_GK_undoStatement) (va_recv hK (hv_one hP h1) (ci := 0) (q0 := 0) rfl rfl) rfl hl.1 rfl (lv_room (Nat.le_of_ble_eq_true rfl)) d_GK_done_28 ⟨Nat.le_of_ble_eq_true rfl, Nat.le_of_ble_eq_true rfl⟩) hZ hS (fun v9 w16 H locs q17 hP hS => ?_) (fun x9 w16 H locs q17 hP hS => q17.elim)
        obtain ⟨hv9, P1, hM, hR⟩ := q17
        subst hv9
        show W _ _ _ _ _ _ _ _ _ _ _ _ _ _ _ (F0 m 31 ls [])
        refine lv_aload_n hx hb d_GK_done_31 rfl (lv_at hl 1 rfl) ?_
        refine lv_bipush (v := 9) hx hb d_GK_done_32 (by decide) ?_
        have h18 : w16 (L 0) = some (.inr (0, [.ref (L 1), .ref (L 2), .ref (L 3), .ref (L 4), .ref (L 5), .ref (L 6), .ref (L 7), .int ((s_undo σ).err), .int (nI ((s_undo σ).sc)), .int (nI ((s_undo σ).ec)), .int ((s_undo σ).ins), .int ((s_undo σ).off)])) := hM.1.2 0 (by decide)
        refine hv_put (D := D) (ci := 0) (v := .int 9) (ty := .int) (C := R_GK) (T := F_GK) (N := 12) hx hb hts i_GK t_GK t_GK_ok n_GK hown hK hP hS h18 rfl 7 (by decide) (hts _ k_GK_129) (fun _ h9 => h9) rfl (by decide +kernel) rfl rfl (Nat.le_of_ble_eq_true rfl) d_GK_done_34 (fun H locs hP hS => ?_)
        obtain ⟨w19, ew19⟩ : ∃ z9 : hv_W, z9 = va_up w16 (L 0) (some (.inr (0, [.ref (L 1), .ref (L 2), .ref (L 3), .ref (L 4), .ref (L 5), .ref (L 6), .ref (L 7), .int 9, .int (nI ((s_undo σ).sc)), .int (nI ((s_undo σ).ec)), .int ((s_undo σ).ins), .int ((s_undo σ).off)]))) := ⟨_, rfl⟩
        have hP : hv_P D classes s0.heap.size w19 H := by rw [ew19]; exact hP
        have hM : cK ca L w0 ((s_undo σ).sErr 9) P1 w19 := by rw [ew19]; exact hM.put 0 (by decide) rfl
        have hR : cR ca L ((s_undo σ).sErr 9) P1 w19 := by rw [ew19]; exact hR.up 0 (by decide)
        have h20 : w19 (L 0) = some (.inr (0, [.ref (L 1), .ref (L 2), .ref (L 3), .ref (L 4), .ref (L 5), .ref (L 6), .ref (L 7), .int 9, .int (nI ((s_undo σ).sc)), .int (nI ((s_undo σ).ec)), .int ((s_undo σ).ins), .int ((s_undo σ).off)])) := by rw [ew19]; exact hv_up_s
        exact hv_throwE C N (E := 8) (Or.inl rfl) 2 kstr_148 hx hb htr hown hK hZ hS hP (hl.1.trans hml.symm) d_GK_done_37 d_GK_done_40 (Or.inl ⟨rfl, d_GK_done_41⟩) d_GK_done_43 d_GK_done_46 hout hlocks (Nat.le_of_ble_eq_true rfl) (Nat.le_of_ble_eq_true rfl) (Nat.le_of_ble_eq_true rfl) (Nat.le_of_ble_eq_true rfl) hQ (fun x9 hx9 => Or.inl (by rw [x_done, cif_pos hoff, cif_pos ⟨c13, hrm⟩]; exact ⟨rfl, cThr.of hM hR hx9⟩))
  · refine hv_Tw (k := 2) (n := 12) (by omega) (by omega) ?_
    exact hv_tleave hQ hZ hS hP hlocks (hout _) (Or.inr (by rw [x_done, cif_neg q3.1]; exact ⟨rfl, q3.2⟩))

abbrev rm_GK_undo : Room := { frames := 3, cells := 0, slots := 0, locals := 63 }
set_option maxHeartbeats 4000000 in
set_option maxRecDepth 100000 in
theorem c_GK_undo {l : Launch} {s0 : State} {D : va_G} {ca : Nat → ClassId} (C : hv_C l s0 D (hv_tys ca)) {w : hv_W} (N : hv_N s0) {L : Nat → Nat} {w0 : hv_W} {σ : gS} {P : cT} (hM : cK ca L w0 σ P w) (hR : cR ca L σ P w) (hW : gW σ)  :
    hv_Met l y_GK_undo [.code y_GK_undo b_GK_undo 2 (some .int)] rm_GK_undo (hv_Pc s0 D w [.ref (L 0)]) (hv_Q s0 D (fun v w' => cRet ca L w0 (x_undo σ) v w') (fun _ _ => False)) 0 0 (hv_A s0.heap.size) := by
  refine hv_enter C _ (by decide) (Nat.le_of_ble_eq_true rfl) ?_
  intro p e s m below meth c ls Q hQ hx hb hr hml hown hts hK hZ hlocks hname hout htr hP hl
  have hown : s.vm.findClass R_GK = some m.cls := hown
  have hS : va_S (hv_A s0.heap.size) s.heap s.heap [] := va_S.rf
  have hl : lv_has ls 2 [(0, .ref (L 0))] := hl
  have hb9 := hW.hb
  refine lv_aload_n hx hb d_GK_undo_0 rfl (lv_at hl 0 rfl) ?_
  have h1 : w (L 0) = some (.inr (0, [.ref (L 1), .ref (L 2), .ref (L 3), .ref (L 4), .ref (L 5), .ref (L 6), .ref (L 7), .int (σ.err), .int (nI (σ.sc)), .int (nI (σ.ec)), .int (σ.ins), .int (σ.off)])) := hM.1.2 0 (by decide)
  refine va_get (D := D) (ci := 0) (v := .int (nI (σ.sc))) (C := R_GK) (T := F_GK) (N := 12) hx hb hts i_GK hown hK (hv_one hP h1) 0 rfl rfl 8 (by decide) (hts _ k_GK_133) (fun _ h9 => h9) rfl d_GK_undo_1 ?_
  refine lv_istore_n (lv' := [(1, .int (nI (σ.sc))), (0, .ref (L 0))]) hx hb d_GK_undo_4 rfl hl (by decide) rfl (fun ls hl => ?_)
  refine lv_aload_n hx hb d_GK_undo_5 rfl (lv_at hl 1 rfl) ?_
  refine hv_call (hv_runV (As := []) (rest := []) (c_GK_undoStatement C N hM hR hb9 hW.un) (hv_cw C hZ kc_GK_undoStatement kn_GK ⟨rfl, rfl, Nat.le_of_ble_eq_true rfl, Nat.le_of_ble_eq_true rfl⟩) hv_blind (hv_pre hZ hS hP) hx hml hb hown (hts _ k_GK_143) (hts _ ki_GK_undoStatement) (hts _ ksel_GK_GK_undoStatement) hy_GK_undoStatement (hts _ kc_GK_undoStatement) (va_recv hK (hv_one hP h1) (ci := 0) (q0 := 0) rfl rfl) rfl hl.1 rfl (lv_room (Nat.le_of_ble_eq_true rfl)) d_GK_undo_6 ⟨Nat.le_of_ble_eq_true rfl, Nat.le_of_ble_eq_true rfl⟩) hZ hS (fun v9 w2 H locs q3 hP hS => ?_) (fun x9 w2 H locs q3 hP hS => q3.elim)
  obtain ⟨hv9, P1, hM, hR⟩ := q3
  subst hv9
  show W _ _ _ _ _ _ _ _ _ _ _ _ _ _ _ (F0 m 9 ls [])
  refine lv_iload_n hx hb d_GK_undo_9 rfl (lv_at hl 0 rfl) ?_
  exact hv_iret (v := nI (σ.sc)) hQ hx hb hr hZ hS hP hlocks d_GK_undo_10 (⟨rfl, rfl, _, hM, hR⟩)

abbrev rm_GK_begin : Room := { frames := 3, cells := 0, slots := 0, locals := 63 }
set_option maxHeartbeats 4000000 in
set_option maxRecDepth 100000 in
theorem c_GK_begin {l : Launch} {s0 : State} {D : va_G} {ca : Nat → ClassId} (C : hv_C l s0 D (hv_tys ca)) {w : hv_W} (N : hv_N s0) {L : Nat → Nat} {w0 : hv_W} {σ : gS} {P : cT} (hM : cK ca L w0 σ P w) (hR : cR ca L σ P w) (hW : gW σ)  :
    hv_Met l y_GK_begin [.code y_GK_begin b_GK_begin 1 (some .boolean)] rm_GK_begin (hv_Pc s0 D w [.ref (L 0)]) (hv_Q s0 D (fun v w' => cRet ca L w0 (x_begin σ) v w') (fun _ _ => False)) 0 0 (hv_A s0.heap.size) := by
  refine hv_enter C _ (by decide) (Nat.le_of_ble_eq_true rfl) ?_
  intro p e s m below meth c ls Q hQ hx hb hr hml hown hts hK hZ hlocks hname hout htr hP hl
  have hown : s.vm.findClass R_GK = some m.cls := hown
  have hS : va_S (hv_A s0.heap.size) s.heap s.heap [] := va_S.rf
  have hl : lv_has ls 1 [(0, .ref (L 0))] := hl
  have hb9 := hW.hb
  refine lv_aload_n hx hb d_GK_begin_0 rfl (lv_at hl 0 rfl) ?_
  have h1 : w (L 0) = some (.inr (0, [.ref (L 1), .ref (L 2), .ref (L 3), .ref (L 4), .ref (L 5), .ref (L 6), .ref (L 7), .int (σ.err), .int (nI (σ.sc)), .int (nI (σ.ec)), .int (σ.ins), .int (σ.off)])) := hM.1.2 0 (by decide)
  refine va_get (D := D) (ci := 0) (v := .int (σ.off)) (C := R_GK) (T := F_GK) (N := 12) hx hb hts i_GK hown hK (hv_one hP h1) 0 rfl rfl 11 (by decide) (hts _ k_GK_159) (fun _ h9 => h9) rfl d_GK_begin_1 ?_
  refine lv_if_ne (tgt := 14) hx hb d_GK_begin_4 (by decide) (fun c4 => ?_) (fun c4 => ?_)
  · refine lv_iconst (v := 0) hx hb d_GK_begin_14 (by decide) ?_
    exact hv_zret (v := 0) hQ hx hb hr (by decide) hZ hS hP hlocks d_GK_begin_15 (by rw [x_begin, cif_neg (fun z => c4 z.1)]; exact ⟨rfl, rfl, P, hM, hR⟩)
  · refine lv_aload_n hx hb d_GK_begin_7 rfl (lv_at hl 0 rfl) ?_
    refine va_get (D := D) (ci := 0) (v := .int (σ.ins)) (C := R_GK) (T := F_GK) (N := 12) hx hb hts i_GK hown hK (hv_one hP h1) 0 rfl rfl 10 (by decide) (hts _ k_GK_136) (fun _ h9 => h9) rfl d_GK_begin_8 ?_
    refine lv_if_eq (tgt := 16) hx hb d_GK_begin_11 (by decide) (fun c11 => ?_) (fun c11 => ?_)
    · refine lv_aload_n hx hb d_GK_begin_16 rfl (lv_at hl 0 rfl) ?_
      refine hv_call (hv_runV (As := []) (rest := []) (c_GK_undoStatement C N hM hR hb9 hW.un) (hv_cw C hZ kc_GK_undoStatement kn_GK ⟨rfl, rfl, Nat.le_of_ble_eq_true rfl, Nat.le_of_ble_eq_true rfl⟩) hv_blind (hv_pre hZ hS hP) hx hml hb hown (hts _ k_GK_143) (hts _ ki_GK_undoStatement) (hts _ ksel_GK_GK_undoStatement) hy_GK_undoStatement (hts _ kc_GK_undoStatement) (va_recv hK (hv_one hP h1) (ci := 0) (q0 := 0) rfl rfl) rfl hl.1 rfl (lv_room (Nat.le_of_ble_eq_true rfl)) d_GK_begin_17 ⟨Nat.le_of_ble_eq_true rfl, Nat.le_of_ble_eq_true rfl⟩) hZ hS (fun v9 w2 H locs q3 hP hS => ?_) (fun x9 w2 H locs q3 hP hS => q3.elim)
      obtain ⟨hv9, P1, hM, hR⟩ := q3
      subst hv9
      show W _ _ _ _ _ _ _ _ _ _ _ _ _ _ _ (F0 m 20 ls [])
      refine lv_aload_n hx hb d_GK_begin_20 rfl (lv_at hl 0 rfl) ?_
      refine lv_iconst (v := 1) hx hb d_GK_begin_21 (by decide) ?_
      have h4 : w2 (L 0) = some (.inr (0, [.ref (L 1), .ref (L 2), .ref (L 3), .ref (L 4), .ref (L 5), .ref (L 6), .ref (L 7), .int ((s_undo σ).err), .int (nI ((s_undo σ).sc)), .int (nI ((s_undo σ).ec)), .int ((s_undo σ).ins), .int ((s_undo σ).off)])) := hM.1.2 0 (by decide)
      refine hv_put (D := D) (ci := 0) (v := .int 1) (ty := .boolean) (C := R_GK) (T := F_GK) (N := 12) hx hb hts i_GK t_GK t_GK_ok n_GK hown hK hP hS h4 rfl 10 (by decide) (hts _ k_GK_136) (fun _ h9 => h9) rfl (by decide +kernel) (by decide +kernel) (by decide +kernel) (Nat.le_of_ble_eq_true rfl) d_GK_begin_22 (fun H locs hP hS => ?_)
      obtain ⟨w5, ew5⟩ : ∃ z9 : hv_W, z9 = va_up w2 (L 0) (some (.inr (0, [.ref (L 1), .ref (L 2), .ref (L 3), .ref (L 4), .ref (L 5), .ref (L 6), .ref (L 7), .int ((s_undo σ).err), .int (nI ((s_undo σ).sc)), .int (nI ((s_undo σ).ec)), .int 1, .int ((s_undo σ).off)]))) := ⟨_, rfl⟩
      have hP : hv_P D classes s0.heap.size w5 H := by rw [ew5]; exact hP
      have hM : cK ca L w0 ((s_undo σ).sIns 1) P1 w5 := by rw [ew5]; exact hM.put 0 (by decide) rfl
      have hR : cR ca L ((s_undo σ).sIns 1) P1 w5 := by rw [ew5]; exact hR.up 0 (by decide)
      have h6 : w5 (L 0) = some (.inr (0, [.ref (L 1), .ref (L 2), .ref (L 3), .ref (L 4), .ref (L 5), .ref (L 6), .ref (L 7), .int ((s_undo σ).err), .int (nI ((s_undo σ).sc)), .int (nI ((s_undo σ).ec)), .int 1, .int ((s_undo σ).off)])) := by rw [ew5]; exact hv_up_s
      refine lv_iconst (v := 1) hx hb d_GK_begin_25 (by decide) ?_
      exact hv_zret (v := 1) hQ hx hb hr (by decide) hZ hS hP hlocks d_GK_begin_26 (by rw [x_begin, cif_pos ⟨c4, c11⟩]; exact ⟨rfl, rfl, _, hM, hR⟩)
    · refine lv_iconst (v := 0) hx hb d_GK_begin_14 (by decide) ?_
      exact hv_zret (v := 0) hQ hx hb hr (by decide) hZ hS hP hlocks d_GK_begin_15 (by rw [x_begin, cif_neg (fun z => c11 z.2)]; exact ⟨rfl, rfl, P, hM, hR⟩)

abbrev rm_GK_commit : Room := { frames := 7, cells := 2, slots := 12, locals := 103 }
set_option maxHeartbeats 4000000 in
set_option maxRecDepth 100000 in
theorem c_GK_commit {l : Launch} {s0 : State} {D : va_G} {ca : Nat → ClassId} (C : hv_C l s0 D (hv_tys ca)) {w : hv_W} (N : hv_N s0) {L : Nat → Nat} {w0 : hv_W} {σ : gS} {P : cT} (hM : cK ca L w0 σ P w) (hR : cR ca L σ P w) (hW : gW σ)  :
    hv_Met l y_GK_commit [.code y_GK_commit b_GK_commit 2 (some .int)] rm_GK_commit (hv_Pc s0 D w [.ref (L 0)]) (hv_Q s0 D (fun v w' => cRet ca L w0 (x_commit σ) v w') (fun x w' => cEx1 ca L w0 (x_commit σ) x w')) 2 12 (hv_A s0.heap.size) := by
  refine hv_enter C _ (by decide) (Nat.le_of_ble_eq_true rfl) ?_
  intro p e s m below meth c ls Q hQ hx hb hr hml hown hts hK hZ hlocks hname hout htr hP hl
  have hown : s.vm.findClass R_GK = some m.cls := hown
  have hS : va_S (hv_A s0.heap.size) s.heap s.heap [] := va_S.rf
  have hl : lv_has ls 2 [(0, .ref (L 0))] := hl
  have hb9 := hW.hb
  have hen : σ.en ≤ 250 := hW.2.2.1.2.1
  have hdu : σ.due ≤ 2000 := hW.2.2.1.2.2.2
  refine lv_aload_n hx hb d_GK_commit_0 rfl (lv_at hl 0 rfl) ?_
  have h1 : w (L 0) = some (.inr (0, [.ref (L 1), .ref (L 2), .ref (L 3), .ref (L 4), .ref (L 5), .ref (L 6), .ref (L 7), .int (σ.err), .int (nI (σ.sc)), .int (nI (σ.ec)), .int (σ.ins), .int (σ.off)])) := hM.1.2 0 (by decide)
  refine hv_call (hv_runV (As := []) (rest := []) (c_GK_mustBeOn C N hM hR) (hv_cw C hZ kc_GK_mustBeOn kn_GK ⟨rfl, rfl, Nat.le_of_ble_eq_true rfl, Nat.le_of_ble_eq_true rfl⟩) hv_blind (hv_pre hZ hS hP) hx hml hb hown (hts _ k_GK_47) (hts _ ki_GK_mustBeOn) (hts _ ksel_GK_GK_mustBeOn) hy_GK_mustBeOn (hts _ kc_GK_mustBeOn) (va_recv hK (hv_one hP h1) (ci := 0) (q0 := 0) rfl rfl) rfl hl.1 rfl (lv_room (Nat.le_of_ble_eq_true rfl)) d_GK_commit_1 ⟨Nat.le_of_ble_eq_true rfl, Nat.le_of_ble_eq_true rfl⟩) hZ hS (fun v9 w2 H locs q3 hP hS => ?_) (fun x9 w2 H locs q3 hP hS => ?_)
  · obtain ⟨hoff, hv9, hw9⟩ := q3
    subst hv9
    rw [hw9] at hP
    show W _ _ _ _ _ _ _ _ _ _ _ _ _ _ _ (F0 m 4 ls [])
    refine lv_aload_n hx hb d_GK_commit_4 rfl (lv_at hl 0 rfl) ?_
    refine va_get (D := D) (ci := 0) (v := .int (σ.ins)) (C := R_GK) (T := F_GK) (N := 12) hx hb hts i_GK hown hK (hv_one hP h1) 0 rfl rfl 10 (by decide) (hts _ k_GK_136) (fun _ h9 => h9) rfl d_GK_commit_5 ?_
    refine lv_if_ne (tgt := 13) hx hb d_GK_commit_8 (by decide) (fun c8 => ?_) (fun c8 => ?_)
    · refine lv_aload_n hx hb d_GK_commit_13 rfl (lv_at hl 0 rfl) ?_
      refine hv_call (hv_runV (As := []) (rest := []) (c_GK_closeStatement C N hM hR hb9) (hv_cw C hZ kc_GK_closeStatement kn_GK ⟨rfl, rfl, Nat.le_of_ble_eq_true rfl, Nat.le_of_ble_eq_true rfl⟩) hv_blind (hv_pre hZ hS hP) hx hml hb hown (hts _ k_GK_156) (hts _ ki_GK_closeStatement) (hts _ ksel_GK_GK_closeStatement) hy_GK_closeStatement (hts _ kc_GK_closeStatement) (va_recv hK (hv_one hP h1) (ci := 0) (q0 := 0) rfl rfl) rfl hl.1 rfl (lv_room (Nat.le_of_ble_eq_true rfl)) d_GK_commit_14 ⟨Nat.le_of_ble_eq_true rfl, Nat.le_of_ble_eq_true rfl⟩) hZ hS (fun v9 w4 H locs q5 hP hS => ?_) (fun x9 w4 H locs q5 hP hS => q5.elim)
      obtain ⟨hv9, P1, hM, hR⟩ := q5
      subst hv9
      show W _ _ _ _ _ _ _ _ _ _ _ _ _ _ _ (F0 m 17 ls [])
      have hec : (s_close σ).ec ≤ 249 := s_close_ec hb9
      have hen : (s_close σ).en ≤ 250 := by rw [s_close_en]; exact hen
      have hdu : (s_close σ).due ≤ 2000 := by rw [s_close_due]; exact hdu
      refine lv_aload_n hx hb d_GK_commit_17 rfl (lv_at hl 0 rfl) ?_
      have h6 : w4 (L 0) = some (.inr (0, [.ref (L 1), .ref (L 2), .ref (L 3), .ref (L 4), .ref (L 5), .ref (L 6), .ref (L 7), .int ((s_close σ).err), .int (nI ((s_close σ).sc)), .int (nI ((s_close σ).ec)), .int ((s_close σ).ins), .int ((s_close σ).off)])) := hM.1.2 0 (by decide)
      refine va_get (D := D) (ci := 0) (v := .int (nI ((s_close σ).ec))) (C := R_GK) (T := F_GK) (N := 12) hx hb hts i_GK hown hK (hv_one hP h6) 0 rfl rfl 9 (by decide) (hts _ k_GK_162) (fun _ h9 => h9) rfl d_GK_commit_18 ?_
      refine lv_istore_n (lv' := [(1, .int (nI ((s_close σ).ec))), (0, .ref (L 0))]) hx hb d_GK_commit_21 rfl hl (by decide) rfl (fun ls hl => ?_)
      refine lv_aload_n hx hb d_GK_commit_22 rfl (lv_at hl 1 rfl) ?_
      refine va_get (D := D) (ci := 0) (v := .ref (L 4)) (C := R_GK) (T := F_GK) (N := 12) hx hb hts i_GK hown hK (hv_one hP h6) 0 rfl rfl 3 (by decide) (hts _ k_GK_25) (fun _ h9 => h9) rfl d_GK_commit_23 ?_
      refine lv_iload_n hx hb d_GK_commit_26 rfl (lv_at hl 0 rfl) ?_
      have h7 : w4 (L 4) = some (.inr (2, [.int ((s_close σ).wr), .int (nI ((s_close σ).en)), .int (nI ((s_close σ).lo)), .int ((s_close σ).tr), .int (nI ((s_close σ).due))])) := hM.1.2 4 (by decide)
      refine hv_call (hv_runV (As := [.int (nI ((s_close σ).ec))]) (rest := []) (c_Lg_hasRoom C (nI ((s_close σ).ec)) h7) (hv_cw C hZ kc_Lg_hasRoom kn_Lg ⟨rfl, rfl, Nat.le_of_ble_eq_true rfl, Nat.le_of_ble_eq_true rfl⟩) hv_blind (hv_pre hZ hS hP) hx hml hb hown (hts _ k_GK_140) (hts _ ki_Lg_hasRoom) (hts _ ksel_Lg_Lg_hasRoom) hy_Lg_hasRoom (hts _ kc_Lg_hasRoom) (va_recv hK (hv_one hP h7) (ci := 2) (q0 := 0) rfl rfl) rfl hl.1 rfl (lv_room (Nat.le_of_ble_eq_true rfl)) d_GK_commit_27 ⟨Nat.le_of_ble_eq_true rfl, Nat.le_of_ble_eq_true rfl⟩) hZ hS (fun v9 w8 H locs q9 hP hS => ?_) (fun x9 w8 H locs q9 hP hS => q9.elim)
      obtain ⟨hv9, hw9⟩ := q9
      subst hv9
      rw [hw9] at hP
      show W _ _ _ _ _ _ _ _ _ _ _ _ _ _ _ (F0 m 30 ls [.int (if 250 < nI (s_close σ).en + lg_wf (nI ((s_close σ).ec)) then 0 else 1)])
      refine lv_if_ne (tgt := 36) hx hb d_GK_commit_30 (by decide) (fun c30 => ?_) (fun c30 => ?_)
      · have hrm : x_room (s_close σ) (s_close σ).ec := Classical.byContradiction fun z => c30 (if_pos ((x_room_iff hen hec).mpr z))
        refine lv_aload_n hx hb d_GK_commit_36 rfl (lv_at hl 1 rfl) ?_
        refine lv_iload_n hx hb d_GK_commit_37 rfl (lv_at hl 0 rfl) ?_
        refine hv_call (hv_runV (As := [.int (nI ((s_close σ).ec))]) (rest := []) (c_GK_keep C N (σ := s_close σ) (s_close σ).ec hM hR hec hdu hen) (hv_cw C hZ kc_GK_keep kn_GK ⟨rfl, rfl, Nat.le_of_ble_eq_true rfl, Nat.le_of_ble_eq_true rfl⟩) hv_blind (hv_pre hZ hS hP) hx hml hb hown (hts _ k_GK_153) (hts _ ki_GK_keep) (hts _ ksel_GK_GK_keep) hy_GK_keep (hts _ kc_GK_keep) (va_recv hK (hv_one hP h6) (ci := 0) (q0 := 0) rfl rfl) rfl hl.1 rfl (lv_room (Nat.le_of_ble_eq_true rfl)) d_GK_commit_38 ⟨Nat.le_of_ble_eq_true rfl, Nat.le_of_ble_eq_true rfl⟩) hZ hS (fun v9 w10 H locs q11 hP hS => ?_) (fun x9 w10 H locs q11 hP hS => ?_)
        · obtain ⟨hv9, hq9⟩ := q11
          subst hv9
          rcases hq9 with ⟨hk9, hw9⟩ | ⟨hk9, hcu9, hP9⟩
          · rw [hw9] at hP
            show W _ _ _ _ _ _ _ _ _ _ _ _ _ _ _ (F0 m 41 ls [])
            refine lv_aload_n hx hb d_GK_commit_41 rfl (lv_at hl 1 rfl) ?_
            refine hv_call (hv_runV (As := []) (rest := []) (c_GK_forgetUnderWay C N hM hR) (hv_cw C hZ kc_GK_forgetUnderWay kn_GK ⟨rfl, rfl, Nat.le_of_ble_eq_true rfl, Nat.le_of_ble_eq_true rfl⟩) hv_blind (hv_pre hZ hS hP) hx hml hb hown (hts _ k_GK_165) (hts _ ki_GK_forgetUnderWay) (hts _ ksel_GK_GK_forgetUnderWay) hy_GK_forgetUnderWay (hts _ kc_GK_forgetUnderWay) (va_recv hK (hv_one hP h6) (ci := 0) (q0 := 0) rfl rfl) rfl hl.1 rfl (lv_room (Nat.le_of_ble_eq_true rfl)) d_GK_commit_42 ⟨Nat.le_of_ble_eq_true rfl, Nat.le_of_ble_eq_true rfl⟩) hZ hS (fun v9 w12 H locs q13 hP hS => ?_) (fun x9 w12 H locs q13 hP hS => q13.elim)
            obtain ⟨hv9, P3, hM, hR⟩ := q13
            subst hv9
            show W _ _ _ _ _ _ _ _ _ _ _ _ _ _ _ (F0 m 45 ls [])
            refine lv_iload_n hx hb d_GK_commit_45 rfl (lv_at hl 0 rfl) ?_
            refine hv_call (hv_runS (As := [.int (nI ((s_close σ).ec))]) (rest := []) (c_Lg_writesFor C (nI (s_close σ).ec)) (hv_cw C hZ kc_Lg_writesFor kn_Lg ⟨rfl, rfl, Nat.le_of_ble_eq_true rfl, Nat.le_of_ble_eq_true rfl⟩) hv_blind (hv_pre hZ hS hP) hx hml hb hown (hts _ k_GK_168) (hts _ ki_Lg_writesFor) (hts _ kn_Lg) hy_Lg_writesFor (hv_sig (hts _ kc_Lg_writesFor)) rfl hl.1 rfl (lv_room (Nat.le_of_ble_eq_true rfl)) d_GK_commit_46 ⟨Nat.le_of_ble_eq_true rfl, Nat.le_of_ble_eq_true rfl⟩) hZ hS (fun v9 w14 H locs q15 hP hS => ?_) (fun x9 w14 H locs q15 hP hS => q15.elim)
            rw [lg_wf_x hec] at q15
            obtain ⟨hv9, hw9⟩ := q15
            subst hv9
            rw [hw9] at hP
            show W _ _ _ _ _ _ _ _ _ _ _ _ _ _ _ (F0 m 49 ls [.int (nI (x_wf (s_close σ).ec))])
            exact hv_iret (v := nI (x_wf (s_close σ).ec)) hQ hx hb hr hZ hS hP hlocks d_GK_commit_49 (by rw [x_commit, cif_pos hoff, cif_neg c8, x_com1, cif_pos hrm, cif_neg (fun z => absurd z.1 (by omega)), cif_neg (by omega)]; exact ⟨rfl, rfl, _, hM, hR⟩)
          · obtain ⟨P2, hM, hR⟩ := hP9
            show W _ _ _ _ _ _ _ _ _ _ _ _ _ _ _ (F0 m 41 ls [])
            refine lv_aload_n hx hb d_GK_commit_41 rfl (lv_at hl 1 rfl) ?_
            have h16 : w10 (L 0) = some (.inr (0, [.ref (L 1), .ref (L 2), .ref (L 3), .ref (L 4), .ref (L 5), .ref (L 6), .ref (L 7), .int ((s_keepO (s_close σ) (s_close σ).ec).err), .int (nI ((s_keepO (s_close σ) (s_close σ).ec).sc)), .int (nI ((s_keepO (s_close σ) (s_close σ).ec).ec)), .int ((s_keepO (s_close σ) (s_close σ).ec).ins), .int ((s_keepO (s_close σ) (s_close σ).ec).off)])) := hM.1.2 0 (by decide)
            refine hv_call (hv_runV (As := []) (rest := []) (c_GK_forgetUnderWay C N hM hR) (hv_cw C hZ kc_GK_forgetUnderWay kn_GK ⟨rfl, rfl, Nat.le_of_ble_eq_true rfl, Nat.le_of_ble_eq_true rfl⟩) hv_blind (hv_pre hZ hS hP) hx hml hb hown (hts _ k_GK_165) (hts _ ki_GK_forgetUnderWay) (hts _ ksel_GK_GK_forgetUnderWay) hy_GK_forgetUnderWay (hts _ kc_GK_forgetUnderWay) (va_recv hK (hv_one hP h16) (ci := 0) (q0 := 0) rfl rfl) rfl hl.1 rfl (lv_room (Nat.le_of_ble_eq_true rfl)) d_GK_commit_42 ⟨Nat.le_of_ble_eq_true rfl, Nat.le_of_ble_eq_true rfl⟩) hZ hS (fun v9 w17 H locs q18 hP hS => ?_) (fun x9 w17 H locs q18 hP hS => q18.elim)
            obtain ⟨hv9, P3, hM, hR⟩ := q18
            subst hv9
            show W _ _ _ _ _ _ _ _ _ _ _ _ _ _ _ (F0 m 45 ls [])
            refine lv_iload_n hx hb d_GK_commit_45 rfl (lv_at hl 0 rfl) ?_
            refine hv_call (hv_runS (As := [.int (nI ((s_close σ).ec))]) (rest := []) (c_Lg_writesFor C (nI (s_close σ).ec)) (hv_cw C hZ kc_Lg_writesFor kn_Lg ⟨rfl, rfl, Nat.le_of_ble_eq_true rfl, Nat.le_of_ble_eq_true rfl⟩) hv_blind (hv_pre hZ hS hP) hx hml hb hown (hts _ k_GK_168) (hts _ ki_Lg_writesFor) (hts _ kn_Lg) hy_Lg_writesFor (hv_sig (hts _ kc_Lg_writesFor)) rfl hl.1 rfl (lv_room (Nat.le_of_ble_eq_true rfl)) d_GK_commit_46 ⟨Nat.le_of_ble_eq_true rfl, Nat.le_of_ble_eq_true rfl⟩) hZ hS (fun v9 w19 H locs q20 hP hS => ?_) (fun x9 w19 H locs q20 hP hS => q20.elim)
            rw [lg_wf_x hec] at q20
            obtain ⟨hv9, hw9⟩ := q20
            subst hv9
            rw [hw9] at hP
            show W _ _ _ _ _ _ _ _ _ _ _ _ _ _ _ (F0 m 49 ls [.int (nI (x_wf (s_close σ).ec))])
            exact hv_iret (v := nI (x_wf (s_close σ).ec)) hQ hx hb hr hZ hS hP hlocks d_GK_commit_49 (by rw [x_commit, cif_pos hoff, cif_neg c8, x_com1, cif_pos hrm, cif_neg (fun z => hcu9 z.2), cif_pos hk9]; exact ⟨rfl, rfl, _, hM, hR⟩)
        · exact hv_tleave hQ hZ hS hP hlocks (hout _) (by rw [x_commit, cif_pos hoff, cif_neg c8, x_com1, cif_pos hrm, cif_pos ⟨q11.1, q11.2.1⟩]; exact ⟨rfl, q11.2.2⟩)
      · have hrm : ¬ x_room (s_close σ) (s_close σ).ec := (x_room_iff hen hec).mp (Classical.byContradiction fun z => by rw [if_neg z] at c30; exact absurd c30 (by decide))
        refine lv_bipush (v := (-2)) hx hb d_GK_commit_33 (by decide) ?_
        refine W.widen (k := 2) (n := 12) (by omega) (by omega) ?_
        exact hv_iret (v := (-2)) hQ hx hb hr hZ hS hP hlocks d_GK_commit_35 (by rw [x_commit, cif_pos hoff, cif_neg c8, x_com1, cif_neg hrm]; exact ⟨rfl, rfl, _, hM, hR⟩)
    · refine lv_iconst (v := (-1)) hx hb d_GK_commit_11 (by decide) ?_
      refine W.widen (k := 2) (n := 12) (by omega) (by omega) ?_
      exact hv_iret (v := (-1)) hQ hx hb hr hZ hS hP hlocks d_GK_commit_12 (by rw [x_commit, cif_pos hoff, cif_pos c8]; exact ⟨rfl, rfl, P, hM, hR⟩)
  · refine hv_Tw (k := 2) (n := 12) (by omega) (by omega) ?_
    exact hv_tleave hQ hZ hS hP hlocks (hout _) ((by rw [x_commit, cif_neg q3.1]; exact ⟨rfl, q3.2⟩))

abbrev rm_GK_rollback : Room := { frames := 3, cells := 0, slots := 0, locals := 63 }
set_option maxHeartbeats 4000000 in
set_option maxRecDepth 100000 in
theorem c_GK_rollback {l : Launch} {s0 : State} {D : va_G} {ca : Nat → ClassId} (C : hv_C l s0 D (hv_tys ca)) {w : hv_W} (N : hv_N s0) {L : Nat → Nat} {w0 : hv_W} {σ : gS} {P : cT} (hM : cK ca L w0 σ P w) (hR : cR ca L σ P w) (hW : gW σ)  :
    hv_Met l y_GK_rollback [.code y_GK_rollback b_GK_rollback 1 (some .boolean)] rm_GK_rollback (hv_Pc s0 D w [.ref (L 0)]) (hv_Q s0 D (fun v w' => cRet ca L w0 (x_rollback σ) v w') (fun _ _ => False)) 0 0 (hv_A s0.heap.size) := by
  refine hv_enter C _ (by decide) (Nat.le_of_ble_eq_true rfl) ?_
  intro p e s m below meth c ls Q hQ hx hb hr hml hown hts hK hZ hlocks hname hout htr hP hl
  have hown : s.vm.findClass R_GK = some m.cls := hown
  have hS : va_S (hv_A s0.heap.size) s.heap s.heap [] := va_S.rf
  have hl : lv_has ls 1 [(0, .ref (L 0))] := hl
  refine lv_aload_n hx hb d_GK_rollback_0 rfl (lv_at hl 0 rfl) ?_
  have h1 : w (L 0) = some (.inr (0, [.ref (L 1), .ref (L 2), .ref (L 3), .ref (L 4), .ref (L 5), .ref (L 6), .ref (L 7), .int (σ.err), .int (nI (σ.sc)), .int (nI (σ.ec)), .int (σ.ins), .int (σ.off)])) := hM.1.2 0 (by decide)
  refine va_get (D := D) (ci := 0) (v := .int (σ.ins)) (C := R_GK) (T := F_GK) (N := 12) hx hb hts i_GK hown hK (hv_one hP h1) 0 rfl rfl 10 (by decide) (hts _ k_GK_136) (fun _ h9 => h9) rfl d_GK_rollback_1 ?_
  refine lv_if_ne (tgt := 9) hx hb d_GK_rollback_4 (by decide) (fun c4 => ?_) (fun c4 => ?_)
  · refine lv_aload_n hx hb d_GK_rollback_9 rfl (lv_at hl 0 rfl) ?_
    refine hv_call (hv_runV (As := []) (rest := []) (c_GK_restoreKept C N hM hR.off1) (hv_cw C hZ kc_GK_restoreKept kn_GK ⟨rfl, rfl, Nat.le_of_ble_eq_true rfl, Nat.le_of_ble_eq_true rfl⟩) hv_blind (hv_pre hZ hS hP) hx hml hb hown (hts _ k_GK_172) (hts _ ki_GK_restoreKept) (hts _ ksel_GK_GK_restoreKept) hy_GK_restoreKept (hts _ kc_GK_restoreKept) (va_recv hK (hv_one hP h1) (ci := 0) (q0 := 0) rfl rfl) rfl hl.1 rfl (lv_room (Nat.le_of_ble_eq_true rfl)) d_GK_rollback_10 ⟨Nat.le_of_ble_eq_true rfl, Nat.le_of_ble_eq_true rfl⟩) hZ hS (fun v9 w2 H locs q3 hP hS => ?_) (fun x9 w2 H locs q3 hP hS => q3.elim)
    obtain ⟨hv9, P1, hM, hR⟩ := q3
    subst hv9
    show W _ _ _ _ _ _ _ _ _ _ _ _ _ _ _ (F0 m 13 ls [])
    refine lv_iconst (v := 1) hx hb d_GK_rollback_13 (by decide) ?_
    exact hv_zret (v := 1) hQ hx hb hr (by decide) hZ hS hP hlocks d_GK_rollback_14 (by rw [x_rollback, cif_neg c4]; exact ⟨rfl, rfl, _, hM, hR⟩)
  · refine lv_iconst (v := 0) hx hb d_GK_rollback_7 (by decide) ?_
    exact hv_zret (v := 0) hQ hx hb hr (by decide) hZ hS hP hlocks d_GK_rollback_8 (by rw [x_rollback, cif_pos c4]; exact ⟨rfl, rfl, P, hM, hR⟩)

abbrev rm_GK_checkpoint : Room := { frames := 7, cells := 2, slots := 12, locals := 102 }
set_option maxHeartbeats 4000000 in
set_option maxRecDepth 100000 in
theorem c_GK_checkpoint {l : Launch} {s0 : State} {D : va_G} {ca : Nat → ClassId} (C : hv_C l s0 D (hv_tys ca)) {w : hv_W} (N : hv_N s0) {L : Nat → Nat} {w0 : hv_W} {σ : gS} {P : cT} (hM : cK ca L w0 σ P w) (hR : cR ca L σ P w) (hW : gW σ)  :
    hv_Met l y_GK_checkpoint [.code y_GK_checkpoint b_GK_checkpoint 2 (some .int)] rm_GK_checkpoint (hv_Pc s0 D w [.ref (L 0)]) (hv_Q s0 D (fun v w' => cRet ca L w0 (x_checkpoint σ) v w') (fun x w' => cEx1 ca L w0 (x_checkpoint σ) x w')) 2 12 (hv_A s0.heap.size) := by
  refine hv_enter C _ (by decide) (Nat.le_of_ble_eq_true rfl) ?_
  intro p e s m below meth c ls Q hQ hx hb hr hml hown hts hK hZ hlocks hname hout htr hP hl
  have hown : s.vm.findClass R_GK = some m.cls := hown
  have hS : va_S (hv_A s0.heap.size) s.heap s.heap [] := va_S.rf
  have hl : lv_has ls 2 [(0, .ref (L 0))] := hl
  have hb9 := hW.hb
  have hdu : σ.due ≤ 2000 := hW.2.2.1.2.2.2
  have hcn := x_cnt_le σ.now 0 64
  have hcl := x_cnt_le σ.now 64 96
  refine lv_aload_n hx hb d_GK_checkpoint_0 rfl (lv_at hl 0 rfl) ?_
  have h1 : w (L 0) = some (.inr (0, [.ref (L 1), .ref (L 2), .ref (L 3), .ref (L 4), .ref (L 5), .ref (L 6), .ref (L 7), .int (σ.err), .int (nI (σ.sc)), .int (nI (σ.ec)), .int (σ.ins), .int (σ.off)])) := hM.1.2 0 (by decide)
  refine hv_call (hv_runV (As := []) (rest := []) (c_GK_mustBeOn C N hM hR) (hv_cw C hZ kc_GK_mustBeOn kn_GK ⟨rfl, rfl, Nat.le_of_ble_eq_true rfl, Nat.le_of_ble_eq_true rfl⟩) hv_blind (hv_pre hZ hS hP) hx hml hb hown (hts _ k_GK_47) (hts _ ki_GK_mustBeOn) (hts _ ksel_GK_GK_mustBeOn) hy_GK_mustBeOn (hts _ kc_GK_mustBeOn) (va_recv hK (hv_one hP h1) (ci := 0) (q0 := 0) rfl rfl) rfl hl.1 rfl (lv_room (Nat.le_of_ble_eq_true rfl)) d_GK_checkpoint_1 ⟨Nat.le_of_ble_eq_true rfl, Nat.le_of_ble_eq_true rfl⟩) hZ hS (fun v9 w2 H locs q3 hP hS => ?_) (fun x9 w2 H locs q3 hP hS => ?_)
  · obtain ⟨hoff, hv9, hw9⟩ := q3
    subst hv9
    rw [hw9] at hP
    show W _ _ _ _ _ _ _ _ _ _ _ _ _ _ _ (F0 m 4 ls [])
    refine lv_aload_n hx hb d_GK_checkpoint_4 rfl (lv_at hl 0 rfl) ?_
    refine va_get (D := D) (ci := 0) (v := .int (σ.ins)) (C := R_GK) (T := F_GK) (N := 12) hx hb hts i_GK hown hK (hv_one hP h1) 0 rfl rfl 10 (by decide) (hts _ k_GK_136) (fun _ h9 => h9) rfl d_GK_checkpoint_5 ?_
    refine lv_if_ne (tgt := 18) hx hb d_GK_checkpoint_8 (by decide) (fun c8 => ?_) (fun c8 => ?_)
    · refine lv_iconst (v := (-1)) hx hb d_GK_checkpoint_18 (by decide) ?_
      refine W.widen (k := 2) (n := 12) (by omega) (by omega) ?_
      exact hv_iret (v := (-1)) hQ hx hb hr hZ hS hP hlocks d_GK_checkpoint_19 (by rw [x_checkpoint, cif_pos hoff, cif_neg (fun z => c8 z.1)]; exact ⟨rfl, rfl, P, hM, hR⟩)
    · refine lv_aload_n hx hb d_GK_checkpoint_11 rfl (lv_at hl 0 rfl) ?_
      refine va_get (D := D) (ci := 0) (v := .int (nI (σ.sc))) (C := R_GK) (T := F_GK) (N := 12) hx hb hts i_GK hown hK (hv_one hP h1) 0 rfl rfl 8 (by decide) (hts _ k_GK_133) (fun _ h9 => h9) rfl d_GK_checkpoint_12 ?_
      refine gk_if_le (x := σ.sc) (tgt := 20) hx hb d_GK_checkpoint_15 (by decide) (by omega) (fun c15 => ?_) (fun c15 => ?_)
      · refine lv_aload_n hx hb d_GK_checkpoint_20 rfl (lv_at hl 0 rfl) ?_
        refine va_get (D := D) (ci := 0) (v := .ref (L 1)) (C := R_GK) (T := F_GK) (N := 12) hx hb hts i_GK hown hK (hv_one hP h1) 0 rfl rfl 0 (by decide) (hts _ k_GK_10) (fun _ h9 => h9) rfl d_GK_checkpoint_21 ?_
        have h4 : w (L 1) = some (.inr (1, [.ref (L 8), .ref (L 9)])) := hM.1.2 1 (by decide)
        have h5 : w (L 8) = some (.inl (ca 5, 64, .inr (.inr (.inr (.inr P.nN))))) := hM.1.2 8 (by decide)
        refine hv_call (hv_runV (As := []) (rest := []) (c_Gr_countNodes C h4 h5) (hv_cw C hZ kc_Gr_countNodes kn_Gr ⟨rfl, rfl, Nat.le_of_ble_eq_true rfl, Nat.le_of_ble_eq_true rfl⟩) hv_blind (hv_pre hZ hS hP) hx hml hb hown (hts _ k_GK_175) (hts _ ki_Gr_countNodes) (hts _ ksel_Gr_Gr_countNodes) hy_Gr_countNodes (hts _ kc_Gr_countNodes) (va_recv hK (hv_one hP h4) (ci := 1) (q0 := 0) rfl rfl) rfl hl.1 rfl (lv_room (Nat.le_of_ble_eq_true rfl)) d_GK_checkpoint_24 ⟨Nat.le_of_ble_eq_true rfl, Nat.le_of_ble_eq_true rfl⟩) hZ hS (fun v9 w6 H locs q7 hP hS => ?_) (fun x9 w6 H locs q7 hP hS => q7.elim)
        rw [g_cntN hR.1 _ (Nat.le_refl _)] at q7
        obtain ⟨hv9, hw9⟩ := q7
        subst hv9
        rw [hw9] at hP
        show W _ _ _ _ _ _ _ _ _ _ _ _ _ _ _ (F0 m 27 ls [.int (nI (x_cnt σ.now 0 64))])
        refine lv_aload_n hx hb d_GK_checkpoint_27 rfl (lv_at hl 0 rfl) ?_
        refine va_get (D := D) (ci := 0) (v := .ref (L 1)) (C := R_GK) (T := F_GK) (N := 12) hx hb hts i_GK hown hK (hv_one hP h1) 0 rfl rfl 0 (by decide) (hts _ k_GK_10) (fun _ h9 => h9) rfl d_GK_checkpoint_28 ?_
        have h8 : w (L 9) = some (.inl (ca 6, 96, .inr (.inr (.inr (.inr P.nL))))) := hM.1.2 9 (by decide)
        refine hv_call (hv_runV (As := []) (rest := [.int (nI (x_cnt σ.now 0 64))]) (c_Gr_countLinks C h4 h8) (hv_cw C hZ kc_Gr_countLinks kn_Gr ⟨rfl, rfl, Nat.le_of_ble_eq_true rfl, Nat.le_of_ble_eq_true rfl⟩) hv_blind (hv_pre hZ hS hP) hx hml hb hown (hts _ k_GK_179) (hts _ ki_Gr_countLinks) (hts _ ksel_Gr_Gr_countLinks) hy_Gr_countLinks (hts _ kc_Gr_countLinks) (va_recv hK (hv_one hP h4) (ci := 1) (q0 := 0) rfl rfl) rfl hl.1 rfl (lv_room (Nat.le_of_ble_eq_true rfl)) d_GK_checkpoint_31 ⟨Nat.le_of_ble_eq_true rfl, Nat.le_of_ble_eq_true rfl⟩) hZ hS (fun v9 w9 H locs q10 hP hS => ?_) (fun x9 w9 H locs q10 hP hS => q10.elim)
        rw [g_cntL hR.1 _ (Nat.le_refl _)] at q10
        obtain ⟨hv9, hw9⟩ := q10
        subst hv9
        rw [hw9] at hP
        show W _ _ _ _ _ _ _ _ _ _ _ _ _ _ _ (F0 m 34 ls [.int (nI (x_cnt σ.now 64 96)), .int (nI (x_cnt σ.now 0 64))])
        refine gk_iadd (x := x_cnt σ.now 0 64) (y := x_cnt σ.now 64 96) hx hb d_GK_checkpoint_34 ?_
        refine lv_iconst (v := 1) hx hb d_GK_checkpoint_35 (by decide) ?_
        refine gk_iadd (x := (x_cnt σ.now 0 64) + (x_cnt σ.now 64 96)) (y := 1) hx hb d_GK_checkpoint_36 ?_
        refine lv_istore_n (lv' := [(1, .int (nI (((x_cnt σ.now 0 64) + (x_cnt σ.now 64 96)) + 1))), (0, .ref (L 0))]) hx hb d_GK_checkpoint_37 rfl hl (by decide) rfl (fun ls hl => ?_)
        refine lv_aload_n hx hb d_GK_checkpoint_38 rfl (lv_at hl 1 rfl) ?_
        refine va_get (D := D) (ci := 0) (v := .ref (L 4)) (C := R_GK) (T := F_GK) (N := 12) hx hb hts i_GK hown hK (hv_one hP h1) 0 rfl rfl 3 (by decide) (hts _ k_GK_25) (fun _ h9 => h9) rfl d_GK_checkpoint_39 ?_
        refine lv_iload_n hx hb d_GK_checkpoint_42 rfl (lv_at hl 0 rfl) ?_
        have hmy : x_many σ = x_cnt σ.now 0 64 + x_cnt σ.now 64 96 + 1 := rfl
        have h11 : w (L 4) = some (.inr (2, [.int (σ.wr), .int (nI (σ.en)), .int (nI (σ.lo)), .int (σ.tr), .int (nI (σ.due))])) := hM.1.2 4 (by decide)
        refine hv_call (hv_runV (As := [.int (nI (((x_cnt σ.now 0 64) + (x_cnt σ.now 64 96)) + 1))]) (rest := []) (c_Lg_writeCheckpoint C (nI (x_cnt σ.now 0 64 + x_cnt σ.now 64 96 + 1)) h11) (hv_cw C hZ kc_Lg_writeCheckpoint kn_Lg ⟨rfl, rfl, Nat.le_of_ble_eq_true rfl, Nat.le_of_ble_eq_true rfl⟩) hv_blind (hv_pre hZ hS hP) hx hml hb hown (hts _ k_GK_182) (hts _ ki_Lg_writeCheckpoint) (hts _ ksel_Lg_Lg_writeCheckpoint) hy_Lg_writeCheckpoint (hts _ kc_Lg_writeCheckpoint) (va_recv hK (hv_one hP h11) (ci := 2) (q0 := 0) rfl rfl) rfl hl.1 rfl (lv_room (Nat.le_of_ble_eq_true rfl)) d_GK_checkpoint_43 ⟨Nat.le_of_ble_eq_true rfl, Nat.le_of_ble_eq_true rfl⟩) hZ hS (fun v9 w12 H locs q13 hP hS => ?_) (fun x9 w12 H locs q13 hP hS => q13.elim)
        rw [← hmy] at q13
        rcases q13 with ⟨hv9, hc9, hu9⟩ | ⟨hv9, hc9, hu9⟩
        · subst hv9
          have hcut : s_cut σ (x_many σ) := (lg_cut_iff hdu (by omega)).mp hc9
          rw [lg_wn_cut hcut hdu (by omega), lg_wt_cut hcut hdu (by omega)] at hu9
          have hR9 := hR.k (g_keep.U (k := 4) (by decide) hu9)
          have hM : cK ca L w0 (s_wrF σ) P w12 := hM.U 4 (by decide) hu9 rfl
          have hR : cR ca L (s_wrF σ) P w12 := hR9
          show W _ _ _ _ _ _ _ _ _ _ _ _ _ _ _ (F0 m 46 ls [.int 0])
          refine lv_if_ne (tgt := 63) hx hb d_GK_checkpoint_46 (by decide) (fun c46 => ?_) (fun c46 => ?_)
          · exact absurd c46 (by decide)
          · refine lv_aload_n hx hb d_GK_checkpoint_49 rfl (lv_at hl 1 rfl) ?_
            have h14 : w12 (L 0) = some (.inr (0, [.ref (L 1), .ref (L 2), .ref (L 3), .ref (L 4), .ref (L 5), .ref (L 6), .ref (L 7), .int ((s_wrF σ).err), .int (nI ((s_wrF σ).sc)), .int (nI ((s_wrF σ).ec)), .int ((s_wrF σ).ins), .int ((s_wrF σ).off)])) := hM.1.2 0 (by decide)
            refine hv_call (hv_runV (As := []) (rest := []) (c_GK_goOff C N hM hR) (hv_cw C hZ kc_GK_goOff kn_GK ⟨rfl, rfl, Nat.le_of_ble_eq_true rfl, Nat.le_of_ble_eq_true rfl⟩) hv_blind (hv_pre hZ hS hP) hx hml hb hown (hts _ k_GK_185) (hts _ ki_GK_goOff) (hts _ ksel_GK_GK_goOff) hy_GK_goOff (hts _ kc_GK_goOff) (va_recv hK (hv_one hP h14) (ci := 0) (q0 := 0) rfl rfl) rfl hl.1 rfl (lv_room (Nat.le_of_ble_eq_true rfl)) d_GK_checkpoint_50 ⟨Nat.le_of_ble_eq_true rfl, Nat.le_of_ble_eq_true rfl⟩) hZ hS (fun v9 w15 H locs q16 hP hS => ?_) (fun x9 w15 H locs q16 hP hS => q16.elim)
            obtain ⟨hv9, P1, hM, hR⟩ := q16
            subst hv9
            show W _ _ _ _ _ _ _ _ _ _ _ _ _ _ _ (F0 m 53 ls [])
            exact hv_throwE C N (E := 9) (Or.inr rfl) 2 kstr_190 hx hb htr hown hK hZ hS hP (hl.1.trans hml.symm) d_GK_checkpoint_53 d_GK_checkpoint_56 (Or.inl ⟨rfl, d_GK_checkpoint_57⟩) d_GK_checkpoint_59 d_GK_checkpoint_62 hout hlocks (Nat.le_of_ble_eq_true rfl) (Nat.le_of_ble_eq_true rfl) (Nat.le_of_ble_eq_true rfl) (Nat.le_of_ble_eq_true rfl) hQ (fun x9 hx9 => by rw [x_checkpoint, cif_pos hoff, cif_pos ⟨c8, c15⟩, cif_pos hcut]; exact ⟨rfl, cThr.of hM hR hx9⟩)
        · subst hv9
          have hcut : ¬ s_cut σ (x_many σ) := fun q => hc9 ((lg_cut_iff hdu (by omega)).mpr q)
          rw [lg_wn_no hcut hdu (by omega), lg_wt_no hcut hdu (by omega)] at hu9
          have hR9 := hR.k (g_keep.U (k := 4) (by decide) hu9)
          have hM : cK ca L w0 (((s_wrO σ (x_many σ)).sEn 0).sTr 0) P w12 := hM.U 4 (by decide) hu9 rfl
          have hR : cR ca L (((s_wrO σ (x_many σ)).sEn 0).sTr 0) P w12 := hR9
          show W _ _ _ _ _ _ _ _ _ _ _ _ _ _ _ (F0 m 46 ls [.int 1])
          refine lv_if_ne (tgt := 63) hx hb d_GK_checkpoint_46 (by decide) (fun c46 => ?_) (fun c46 => ?_)
          · refine lv_iload_n hx hb d_GK_checkpoint_63 rfl (lv_at hl 0 rfl) ?_
            refine W.widen (k := 2) (n := 12) (by omega) (by omega) ?_
            exact hv_iret (v := nI (((x_cnt σ.now 0 64) + (x_cnt σ.now 64 96)) + 1)) hQ hx hb hr hZ hS hP hlocks d_GK_checkpoint_64 (by rw [x_checkpoint, cif_pos hoff, cif_pos ⟨c8, c15⟩, cif_neg hcut]; exact ⟨rfl, rfl, P, hM, hR⟩)
          · exact absurd c46 (by decide)
      · refine lv_iconst (v := (-1)) hx hb d_GK_checkpoint_18 (by decide) ?_
        refine W.widen (k := 2) (n := 12) (by omega) (by omega) ?_
        exact hv_iret (v := (-1)) hQ hx hb hr hZ hS hP hlocks d_GK_checkpoint_19 (by rw [x_checkpoint, cif_pos hoff, cif_neg (fun z => c15 z.2)]; exact ⟨rfl, rfl, P, hM, hR⟩)
  · refine hv_Tw (k := 2) (n := 12) (by omega) (by omega) ?_
    exact hv_tleave hQ hZ hS hP hlocks (hout _) ((by rw [x_checkpoint, cif_neg q3.1]; exact ⟨rfl, q3.2⟩))

abbrev rm_GK_cut : Room := { frames := 1, cells := 0, slots := 0, locals := 21 }
set_option maxHeartbeats 4000000 in
set_option maxRecDepth 100000 in
theorem c_GK_cut {l : Launch} {s0 : State} {D : va_G} {ca : Nat → ClassId} (C : hv_C l s0 D (hv_tys ca)) {w : hv_W} (N : hv_N s0) {L : Nat → Nat} {w0 : hv_W} {σ : gS} {P : cT} (n : Int32) (hM : cK ca L w0 σ P w) (hR : cR ca L σ P w) (hW : gW σ)  :
    hv_Met l y_GK_cut [.code y_GK_cut b_GK_cut 2 (some .boolean)] rm_GK_cut (hv_Pc s0 D w [.ref (L 0), .int n]) (hv_Q s0 D (fun v w' => cRet ca L w0 (x_cut σ n) v w') (fun _ _ => False)) 0 0 (hv_A s0.heap.size) := by
  refine hv_enter C _ (by decide) (Nat.le_of_ble_eq_true rfl) ?_
  intro p e s m below meth c ls Q hQ hx hb hr hml hown hts hK hZ hlocks hname hout htr hP hl
  have hown : s.vm.findClass R_GK = some m.cls := hown
  have hS : va_S (hv_A s0.heap.size) s.heap s.heap [] := va_S.rf
  have hl : lv_has ls 2 [(0, .ref (L 0)), (1, .int n)] := hl
  refine lv_aload_n hx hb d_GK_cut_0 rfl (lv_at hl 0 rfl) ?_
  have h1 : w (L 0) = some (.inr (0, [.ref (L 1), .ref (L 2), .ref (L 3), .ref (L 4), .ref (L 5), .ref (L 6), .ref (L 7), .int (σ.err), .int (nI (σ.sc)), .int (nI (σ.ec)), .int (σ.ins), .int (σ.off)])) := hM.1.2 0 (by decide)
  refine va_get (D := D) (ci := 0) (v := .int (σ.off)) (C := R_GK) (T := F_GK) (N := 12) hx hb hts i_GK hown hK (hv_one hP h1) 0 rfl rfl 11 (by decide) (hts _ k_GK_159) (fun _ h9 => h9) rfl d_GK_cut_1 ?_
  refine lv_if_ne (tgt := 18) hx hb d_GK_cut_4 (by decide) (fun c4 => ?_) (fun c4 => ?_)
  · refine lv_iconst (v := 0) hx hb d_GK_cut_18 (by decide) ?_
    exact hv_zret (v := 0) hQ hx hb hr (by decide) hZ hS hP hlocks d_GK_cut_19 (by rw [x_cut, cif_neg (fun z => c4 z.1)]; exact ⟨rfl, rfl, P, hM, hR⟩)
  · refine lv_iload_n hx hb d_GK_cut_7 rfl (lv_at hl 1 rfl) ?_
    refine lv_if_lt (tgt := 18) hx hb d_GK_cut_8 (by decide) (fun c8 => ?_) (fun c8 => ?_)
    · refine lv_iconst (v := 0) hx hb d_GK_cut_18 (by decide) ?_
      exact hv_zret (v := 0) hQ hx hb hr (by decide) hZ hS hP hlocks d_GK_cut_19 (by rw [x_cut, cif_neg (fun z => z.2.1 c8)]; exact ⟨rfl, rfl, P, hM, hR⟩)
    · refine lv_iload_n hx hb d_GK_cut_11 rfl (lv_at hl 1 rfl) ?_
      refine lv_sipush (v := 2000) hx hb d_GK_cut_12 (by decide) ?_
      refine lv_icmp_le (tgt := 20) hx hb d_GK_cut_15 (by decide) (fun c15 => ?_) (fun c15 => ?_)
      · refine lv_aload_n hx hb d_GK_cut_20 rfl (lv_at hl 0 rfl) ?_
        refine va_get (D := D) (ci := 0) (v := .ref (L 4)) (C := R_GK) (T := F_GK) (N := 12) hx hb hts i_GK hown hK (hv_one hP h1) 0 rfl rfl 3 (by decide) (hts _ k_GK_25) (fun _ h9 => h9) rfl d_GK_cut_21 ?_
        refine lv_iload_n hx hb d_GK_cut_24 rfl (lv_at hl 1 rfl) ?_
        obtain ⟨d9, hd9, he9⟩ := nI_of2 (x := n) (M := 2000) (n := 2000) (by decide) c8 c15
        subst he9
        have h2 : w (L 4) = some (.inr (2, [.int (σ.wr), .int (nI (σ.en)), .int (nI (σ.lo)), .int (σ.tr), .int (nI (σ.due))])) := hM.1.2 4 (by decide)
        refine hv_call (hv_runV (As := [.int (nI d9)]) (rest := []) (c_Lg_failAt C (nI d9) h2) (hv_cw C hZ kc_Lg_failAt kn_Lg ⟨rfl, rfl, Nat.le_of_ble_eq_true rfl, Nat.le_of_ble_eq_true rfl⟩) hv_blind (hv_pre hZ hS hP) hx hml hb hown (hts _ k_GK_193) (hts _ ki_Lg_failAt) (hts _ ksel_Lg_Lg_failAt) hy_Lg_failAt (hts _ kc_Lg_failAt) (va_recv hK (hv_one hP h2) (ci := 2) (q0 := 0) rfl rfl) rfl hl.1 rfl (lv_room (Nat.le_of_ble_eq_true rfl)) d_GK_cut_25 ⟨Nat.le_of_ble_eq_true rfl, Nat.le_of_ble_eq_true rfl⟩) hZ hS (fun v9 w3 H locs q4 hP hS => ?_) (fun x9 w3 H locs q4 hP hS => q4.elim)
        obtain ⟨hv9, hu9⟩ := q4
        subst hv9
        have hM : cK ca L w0 (σ.sDue d9) P w3 := hM.U 4 (by decide) hu9 rfl
        have hR : cR ca L (σ.sDue d9) P w3 := hR.k (g_keep.U (k := 4) (by decide) hu9)
        show W _ _ _ _ _ _ _ _ _ _ _ _ _ _ _ (F0 m 28 ls [])
        refine lv_iconst (v := 1) hx hb d_GK_cut_28 (by decide) ?_
        exact hv_zret (v := 1) hQ hx hb hr (by decide) hZ hS hP hlocks d_GK_cut_29 (by rw [x_cut, cif_pos ⟨c4, c8, c15⟩, nI_clamp (by omega)]; exact ⟨rfl, rfl, P, hM, hR⟩)
      · refine lv_iconst (v := 0) hx hb d_GK_cut_18 (by decide) ?_
        exact hv_zret (v := 0) hQ hx hb hr (by decide) hZ hS hP hlocks d_GK_cut_19 (by rw [x_cut, cif_neg (fun z => c15 z.2.2)]; exact ⟨rfl, rfl, P, hM, hR⟩)

abbrev rm_GK_recover : Room := { frames := 3, cells := 0, slots := 0, locals := 63 }
set_option maxHeartbeats 4000000 in
set_option maxRecDepth 100000 in
theorem c_GK_recover {l : Launch} {s0 : State} {D : va_G} {ca : Nat → ClassId} (C : hv_C l s0 D (hv_tys ca)) {w : hv_W} (N : hv_N s0) {L : Nat → Nat} {w0 : hv_W} {σ : gS} {P : cT} (hM : cK ca L w0 σ P w) (hR : cR ca L σ P w) (hW : gW σ)  :
    hv_Met l y_GK_recover [.code y_GK_recover b_GK_recover 1 (some .int)] rm_GK_recover (hv_Pc s0 D w [.ref (L 0)]) (hv_Q s0 D (fun v w' => cRet ca L w0 (x_recover σ) v w') (fun _ _ => False)) 0 0 (hv_A s0.heap.size) := by
  refine hv_enter C _ (by decide) (Nat.le_of_ble_eq_true rfl) ?_
  intro p e s m below meth c ls Q hQ hx hb hr hml hown hts hK hZ hlocks hname hout htr hP hl
  have hown : s.vm.findClass R_GK = some m.cls := hown
  have hS : va_S (hv_A s0.heap.size) s.heap s.heap [] := va_S.rf
  have hl : lv_has ls 1 [(0, .ref (L 0))] := hl
  have hR := hR.off1
  have hR : cRx ca L σ P w := hR
  refine lv_aload_n hx hb d_GK_recover_0 rfl (lv_at hl 0 rfl) ?_
  refine lv_iconst (v := 0) hx hb d_GK_recover_1 (by decide) ?_
  have h1 : w (L 0) = some (.inr (0, [.ref (L 1), .ref (L 2), .ref (L 3), .ref (L 4), .ref (L 5), .ref (L 6), .ref (L 7), .int (σ.err), .int (nI (σ.sc)), .int (nI (σ.ec)), .int (σ.ins), .int (σ.off)])) := hM.1.2 0 (by decide)
  refine hv_put (D := D) (ci := 0) (v := .int 0) (ty := .boolean) (C := R_GK) (T := F_GK) (N := 12) hx hb hts i_GK t_GK t_GK_ok n_GK hown hK hP hS h1 rfl 11 (by decide) (hts _ k_GK_159) (fun _ h9 => h9) rfl (by decide +kernel) (by decide +kernel) (by decide +kernel) (Nat.le_of_ble_eq_true rfl) d_GK_recover_2 (fun H locs hP hS => ?_)
  obtain ⟨w2, ew2⟩ : ∃ z9 : hv_W, z9 = va_up w (L 0) (some (.inr (0, [.ref (L 1), .ref (L 2), .ref (L 3), .ref (L 4), .ref (L 5), .ref (L 6), .ref (L 7), .int (σ.err), .int (nI (σ.sc)), .int (nI (σ.ec)), .int (σ.ins), .int 0]))) := ⟨_, rfl⟩
  have hP : hv_P D classes s0.heap.size w2 H := by rw [ew2]; exact hP
  have hM : cK ca L w0 (σ.sOff 0) P w2 := by rw [ew2]; exact hM.put 0 (by decide) rfl
  have hR : cRx ca L (σ.sOff 0) P w2 := by rw [ew2]; exact hR.up 0 (by decide)
  have h3 : w2 (L 0) = some (.inr (0, [.ref (L 1), .ref (L 2), .ref (L 3), .ref (L 4), .ref (L 5), .ref (L 6), .ref (L 7), .int (σ.err), .int (nI (σ.sc)), .int (nI (σ.ec)), .int (σ.ins), .int 0])) := by rw [ew2]; exact hv_up_s
  refine lv_aload_n hx hb d_GK_recover_5 rfl (lv_at hl 0 rfl) ?_
  refine hv_call (hv_runV (As := []) (rest := []) (c_GK_restoreKept C N hM hR) (hv_cw C hZ kc_GK_restoreKept kn_GK ⟨rfl, rfl, Nat.le_of_ble_eq_true rfl, Nat.le_of_ble_eq_true rfl⟩) hv_blind (hv_pre hZ hS hP) hx hml hb hown (hts _ k_GK_172) (hts _ ki_GK_restoreKept) (hts _ ksel_GK_GK_restoreKept) hy_GK_restoreKept (hts _ kc_GK_restoreKept) (va_recv hK (hv_one hP h3) (ci := 0) (q0 := 0) rfl rfl) rfl hl.1 rfl (lv_room (Nat.le_of_ble_eq_true rfl)) d_GK_recover_6 ⟨Nat.le_of_ble_eq_true rfl, Nat.le_of_ble_eq_true rfl⟩) hZ hS (fun v9 w4 H locs q5 hP hS => ?_) (fun x9 w4 H locs q5 hP hS => q5.elim)
  obtain ⟨hv9, P1, hM, hR⟩ := q5
  subst hv9
  show W _ _ _ _ _ _ _ _ _ _ _ _ _ _ _ (F0 m 9 ls [])
  refine lv_aload_n hx hb d_GK_recover_9 rfl (lv_at hl 0 rfl) ?_
  have h6 : w4 (L 0) = some (.inr (0, [.ref (L 1), .ref (L 2), .ref (L 3), .ref (L 4), .ref (L 5), .ref (L 6), .ref (L 7), .int ((s_restore (σ.sOff 0)).err), .int (nI ((s_restore (σ.sOff 0)).sc)), .int (nI ((s_restore (σ.sOff 0)).ec)), .int ((s_restore (σ.sOff 0)).ins), .int ((s_restore (σ.sOff 0)).off)])) := hM.1.2 0 (by decide)
  refine va_get (D := D) (ci := 0) (v := .ref (L 4)) (C := R_GK) (T := F_GK) (N := 12) hx hb hts i_GK hown hK (hv_one hP h6) 0 rfl rfl 3 (by decide) (hts _ k_GK_25) (fun _ h9 => h9) rfl d_GK_recover_10 ?_
  have h7 : w4 (L 4) = some (.inr (2, [.int ((s_restore (σ.sOff 0)).wr), .int (nI ((s_restore (σ.sOff 0)).en)), .int (nI ((s_restore (σ.sOff 0)).lo)), .int ((s_restore (σ.sOff 0)).tr), .int (nI ((s_restore (σ.sOff 0)).due))])) := hM.1.2 4 (by decide)
  refine hv_call (hv_runV (As := []) (rest := []) (c_Lg_reopen C h7) (hv_cw C hZ kc_Lg_reopen kn_Lg ⟨rfl, rfl, Nat.le_of_ble_eq_true rfl, Nat.le_of_ble_eq_true rfl⟩) hv_blind (hv_pre hZ hS hP) hx hml hb hown (hts _ k_GK_196) (hts _ ki_Lg_reopen) (hts _ ksel_Lg_Lg_reopen) hy_Lg_reopen (hts _ kc_Lg_reopen) (va_recv hK (hv_one hP h7) (ci := 2) (q0 := 0) rfl rfl) rfl hl.1 rfl (lv_room (Nat.le_of_ble_eq_true rfl)) d_GK_recover_13 ⟨Nat.le_of_ble_eq_true rfl, Nat.le_of_ble_eq_true rfl⟩) hZ hS (fun v9 w8 H locs q9 hP hS => ?_) (fun x9 w8 H locs q9 hP hS => q9.elim)
  obtain ⟨hv9, hu9⟩ := q9
  subst hv9
  have hM : cK ca L w0 (x_recover σ).1 P1 w8 := hM.U 4 (by decide) hu9 rfl
  have hR : cR ca L (x_recover σ).1 P1 w8 := hR.k (g_keep.U (k := 4) (by decide) hu9)
  show W _ _ _ _ _ _ _ _ _ _ _ _ _ _ _ (F0 m 16 ls [.int (σ.tr)])
  exact hv_iret (v := σ.tr) hQ hx hb hr hZ hS hP hlocks d_GK_recover_16 (⟨rfl, rfl, _, hM, hR⟩)

abbrev rm_GK_thing : Room := { frames := 4, cells := 0, slots := 0, locals := 92 }
set_option maxHeartbeats 4000000 in
set_option maxRecDepth 100000 in
theorem c_GK_thing {l : Launch} {s0 : State} {D : va_G} {ca : Nat → ClassId} (C : hv_C l s0 D (hv_tys ca)) {w : hv_W} (N : hv_N s0) {L : Nat → Nat} {w0 : hv_W} {σ : gS} {P : cT} (k n wh : Int32) (hM : cK ca L w0 σ P w) (hR : cR ca L σ P w) (hW : gW σ)  :
    hv_Met l y_GK_thing [.code y_GK_thing b_GK_thing 6 (some .int)] rm_GK_thing (hv_Pc s0 D w [.ref (L 0), .int k, .int n, .int wh]) (hv_Q s0 D (fun v w' => v = some (.int (x_thing σ k n wh)) ∧ w' = w) (fun _ _ => False)) 0 0 (hv_A s0.heap.size) := by
  refine hv_enter C _ (by decide) (Nat.le_of_ble_eq_true rfl) ?_
  intro p e s m below meth c ls Q hQ hx hb hr hml hown hts hK hZ hlocks hname hout htr hP hl
  have hown : s.vm.findClass R_GK = some m.cls := hown
  have hS : va_S (hv_A s0.heap.size) s.heap s.heap [] := va_S.rf
  have hl : lv_has ls 6 [(0, .ref (L 0)), (1, .int k), (2, .int n), (3, .int wh)] := hl
  refine lv_aload_n hx hb d_GK_thing_0 rfl (lv_at hl 0 rfl) ?_
  have h1 : w (L 0) = some (.inr (0, [.ref (L 1), .ref (L 2), .ref (L 3), .ref (L 4), .ref (L 5), .ref (L 6), .ref (L 7), .int (σ.err), .int (nI (σ.sc)), .int (nI (σ.ec)), .int (σ.ins), .int (σ.off)])) := hM.1.2 0 (by decide)
  refine va_get (D := D) (ci := 0) (v := .ref (L 1)) (C := R_GK) (T := F_GK) (N := 12) hx hb hts i_GK hown hK (hv_one hP h1) 0 rfl rfl 0 (by decide) (hts _ k_GK_10) (fun _ h9 => h9) rfl d_GK_thing_1 ?_
  refine lv_iload_n hx hb d_GK_thing_4 rfl (lv_at hl 1 rfl) ?_
  refine lv_iload_n hx hb d_GK_thing_5 rfl (lv_at hl 2 rfl) ?_
  have h2 : w (L 1) = some (.inr (1, [.ref (L 8), .ref (L 9)])) := hM.1.2 1 (by decide)
  have h3 : w (L 8) = some (.inl (ca 5, 64, .inr (.inr (.inr (.inr P.nN))))) := hM.1.2 8 (by decide)
  have h4 : w (L 9) = some (.inl (ca 6, 96, .inr (.inr (.inr (.inr P.nL))))) := hM.1.2 9 (by decide)
  refine hv_call (hv_runV (As := [.int k, .int n]) (rest := []) (c_Gr_thingAt C k n h2 h3 h4) (hv_cw C hZ kc_Gr_thingAt kn_Gr ⟨rfl, rfl, Nat.le_of_ble_eq_true rfl, Nat.le_of_ble_eq_true rfl⟩) hv_blind (hv_pre hZ hS hP) hx hml hb hown (hts _ k_GK_199) (hts _ ki_Gr_thingAt) (hts _ ksel_Gr_Gr_thingAt) hy_Gr_thingAt (hts _ kc_Gr_thingAt) (va_recv hK (hv_one hP h2) (ci := 1) (q0 := 0) rfl rfl) rfl hl.1 rfl (lv_room (Nat.le_of_ble_eq_true rfl)) d_GK_thing_6 ⟨Nat.le_of_ble_eq_true rfl, Nat.le_of_ble_eq_true rfl⟩) hZ hS (fun v9 w5 H locs q6 hP hS => ?_) (fun x9 w5 H locs q6 hP hS => q6.elim)
  obtain ⟨hv9, hw9⟩ := q6
  subst hv9
  rw [hw9] at hP
  show W _ _ _ _ _ _ _ _ _ _ _ _ _ _ _ (F0 m 9 ls [va_rf (gk_thing P.nN P.nL k n)])
  cases h9o : gk_thing P.nN P.nL k n with
  | none =>
    show W _ _ _ _ _ _ _ _ _ _ _ _ _ _ _ (F0 m 9 ls [.null])
    refine lv_astoreN (lv' := [(4, .null), (0, .ref (L 0)), (1, .int k), (2, .int n), (3, .int wh)]) hx hb d_GK_thing_9 hl (by decide) rfl (fun ls hl => ?_)
    refine lv_aloadN hx hb d_GK_thing_11 (lv_at hl 0 rfl) ?_
    refine lv_ifnonnullN hx hb d_GK_thing_13 ?_
    refine lv_iconst (v := (-1)) hx hb d_GK_thing_16 (by decide) ?_
    exact hv_iret (v := (-1)) hQ hx hb hr hZ hS hP hlocks d_GK_thing_17 (⟨by rw [x_thing, gk_thing_none hR.1 h9o], rfl⟩)
  | some a =>
    show W _ _ _ _ _ _ _ _ _ _ _ _ _ _ _ (F0 m 9 ls [.ref a])
    rcases (gk_thing_someE hR.1 h9o) with ⟨hk4, hs⟩ | ⟨hk4, hs⟩
    · subst hk4
      obtain ⟨i, t, hi, he, ha, ht, hf, -⟩ := gk_sel_someN hR.1 hs
      subst he
      have hwt := hW.t (by omega) ht
      have hpl : t.ps.length ≤ 6 := hwt.2.2.1
      obtain ⟨hma, pa, lb, h0, hls, hps⟩ := cG_nodeAt hR.1 hi ha ht
      obtain ⟨hpm, pf, hp, hpe⟩ := id hps
      have hla : t.lab.length ≤ 4 := hwt.1
      show W _ _ _ _ _ _ _ _ _ _ _ _ _ _ _ (F0 m 9 ls [.ref a])
      refine lv_astore (lv' := [(4, .ref a), (0, .ref (L 0)), (1, .int 4), (2, .int (nI i)), (3, .int wh)]) hx hb d_GK_thing_9 hl (by decide) rfl (fun ls hl => ?_)
      refine lv_aload hx hb d_GK_thing_11 (lv_at hl 0 rfl) ?_
      refine lv_ifnonnull (tgt := 18) hx hb d_GK_thing_13 (by decide) ?_
      refine lv_iload_n hx hb d_GK_thing_18 rfl (lv_at hl 4 rfl) ?_
      refine lv_if_ne (tgt := 29) hx hb d_GK_thing_19 (by decide) (fun c19 => ?_) (fun c19 => ?_)
      · refine lv_aload hx hb d_GK_thing_29 (lv_at hl 0 rfl) ?_
        refine va_instY hx hb hown (hts _ k_GK_57) (hv_cast C hZ kcast_Nd_Nd) (va_recv hK (hv_one hP h0) (ci := 5) (q0 := 0) rfl rfl) d_GK_thing_31 ?_
        refine lv_if_eq (tgt := 53) hx hb d_GK_thing_34 (by decide) (fun c34 => ?_) (fun c34 => ?_)
        · exact absurd c34 (by decide)
        · refine lv_aload hx hb d_GK_thing_37 (lv_at hl 0 rfl) ?_
          refine va_castY hx hb hown (hts _ k_GK_57) (hv_cast C hZ kcast_Nd_Nd) (va_recv hK (hv_one hP h0) (ci := 5) (q0 := 0) rfl rfl) d_GK_thing_39 ?_
          refine lv_astore (lv' := [(5, .ref a), (4, .ref a), (0, .ref (L 0)), (1, .int 4), (2, .int (nI i)), (3, .int wh)]) hx hb d_GK_thing_42 hl (by decide) rfl (fun ls hl => ?_)
          refine lv_aload_n hx hb d_GK_thing_44 rfl (lv_at hl 2 rfl) ?_
          refine lv_aload hx hb d_GK_thing_45 (lv_at hl 0 rfl) ?_
          refine lv_iload_n hx hb d_GK_thing_47 rfl (lv_at hl 4 rfl) ?_
          refine lv_iload_n hx hb d_GK_thing_48 rfl (lv_at hl 5 rfl) ?_
          refine hv_call (hv_runV (As := [.ref a, .int (nI i), .int wh]) (rest := []) (c_GK_nodeFact C N hM hR hi ha ht hpl hla wh) (hv_cw C hZ kc_GK_nodeFact kn_GK ⟨rfl, rfl, Nat.le_of_ble_eq_true rfl, Nat.le_of_ble_eq_true rfl⟩) hv_blind (hv_pre hZ hS hP) hx hml hb hown (hts _ k_GK_208) (hts _ ki_GK_nodeFact) (hts _ ksel_GK_GK_nodeFact) hy_GK_nodeFact (hts _ kc_GK_nodeFact) (va_recv hK (hv_one hP h1) (ci := 0) (q0 := 0) rfl rfl) rfl hl.1 rfl (lv_room (Nat.le_of_ble_eq_true rfl)) d_GK_thing_49 ⟨Nat.le_of_ble_eq_true rfl, Nat.le_of_ble_eq_true rfl⟩) hZ hS (fun v9 w7 H locs q8 hP hS => ?_) (fun x9 w7 H locs q8 hP hS => q8.elim)
          obtain ⟨hv9, hw9⟩ := q8
          subst hv9
          rw [hw9] at hP
          show W _ _ _ _ _ _ _ _ _ _ _ _ _ _ _ (F0 m 52 ls [.int (x_nf σ.now t (nI i) wh)])
          exact hv_iret (v := x_nf σ.now t (nI i) wh) hQ hx hb hr hZ hS hP hlocks d_GK_thing_52 (⟨by rw [x_thing, hf]; dsimp only; rw [if_neg c19, if_pos rfl], rfl⟩)
      · refine lv_aload hx hb d_GK_thing_22 (lv_at hl 0 rfl) ?_
        refine va_get (D := D) (ci := 5) (v := .ref pa) (C := R_Nd) (T := F_Nd) (N := 2) hx hb hts i_Nd hown hK (hv_one hP h0) 0 rfl rfl 0 (by decide) (hts _ k_GK_202) (fun _ h9 => h9) rfl d_GK_thing_24 ?_
        refine va_alen (v := nI t.ps.length) hx hb hK (hv_one hP hp) 0 4 rfl rfl rfl d_GK_thing_27 ?_
        exact hv_iret (v := nI t.ps.length) hQ hx hb hr hZ hS hP hlocks d_GK_thing_28 (⟨by rw [x_thing, hf]; dsimp only; rw [if_pos c19], rfl⟩)
    · subst hk4
      obtain ⟨i, t, hi, he, ha, ht, hf, -⟩ := gk_sel_someL hR.1 hs
      subst he
      have hwt := hW.t (by omega) ht
      have hpl : t.ps.length ≤ 6 := hwt.2.2.1
      obtain ⟨hma, pa, h0, hps⟩ := cG_linkAt hR.1 hi ha ht
      obtain ⟨hpm, pf, hp, hpe⟩ := id hps
      show W _ _ _ _ _ _ _ _ _ _ _ _ _ _ _ (F0 m 9 ls [.ref a])
      refine lv_astore (lv' := [(4, .ref a), (0, .ref (L 0)), (1, .int 5), (2, .int (nI i)), (3, .int wh)]) hx hb d_GK_thing_9 hl (by decide) rfl (fun ls hl => ?_)
      refine lv_aload hx hb d_GK_thing_11 (lv_at hl 0 rfl) ?_
      refine lv_ifnonnull (tgt := 18) hx hb d_GK_thing_13 (by decide) ?_
      refine lv_iload_n hx hb d_GK_thing_18 rfl (lv_at hl 4 rfl) ?_
      refine lv_if_ne (tgt := 29) hx hb d_GK_thing_19 (by decide) (fun c19 => ?_) (fun c19 => ?_)
      · refine lv_aload hx hb d_GK_thing_29 (lv_at hl 0 rfl) ?_
        refine va_instNo hx hb hown (hts _ k_GK_57) (va_Nc.moved hZ.1.alike N.1) (va_recv hK (hv_one hP h0) (ci := 6) (q0 := 0) rfl rfl) d_GK_thing_31 ?_
        refine lv_if_eq (tgt := 53) hx hb d_GK_thing_34 (by decide) (fun c34 => ?_) (fun c34 => ?_)
        · refine lv_aload hx hb d_GK_thing_53 (lv_at hl 0 rfl) ?_
          refine va_instY hx hb hown (hts _ k_GK_113) (hv_cast C hZ kcast_Lk_Lk) (va_recv hK (hv_one hP h0) (ci := 6) (q0 := 0) rfl rfl) d_GK_thing_55 ?_
          refine lv_if_eq (tgt := 75) hx hb d_GK_thing_58 (by decide) (fun c58 => ?_) (fun c58 => ?_)
          · exact absurd c58 (by decide)
          · refine lv_aload hx hb d_GK_thing_61 (lv_at hl 0 rfl) ?_
            refine va_castY hx hb hown (hts _ k_GK_113) (hv_cast C hZ kcast_Lk_Lk) (va_recv hK (hv_one hP h0) (ci := 6) (q0 := 0) rfl rfl) d_GK_thing_63 ?_
            refine lv_astore (lv' := [(5, .ref a), (4, .ref a), (0, .ref (L 0)), (1, .int 5), (2, .int (nI i)), (3, .int wh)]) hx hb d_GK_thing_66 hl (by decide) rfl (fun ls hl => ?_)
            refine lv_aload hx hb d_GK_thing_68 (lv_at hl 0 rfl) ?_
            refine lv_iload_n hx hb d_GK_thing_70 rfl (lv_at hl 5 rfl) ?_
            refine hv_call (hv_runS (As := [.ref a, .int wh]) (rest := []) (c_GK_linkFact C t wh h0) (hv_cw C hZ kc_GK_linkFact kn_GK ⟨rfl, rfl, Nat.le_of_ble_eq_true rfl, Nat.le_of_ble_eq_true rfl⟩) hv_blind (hv_pre hZ hS hP) hx hml hb hown (hts _ k_GK_212) (hts _ ki_GK_linkFact) (hts _ kn_GK) hy_GK_linkFact (hv_sig (hts _ kc_GK_linkFact)) rfl hl.1 rfl (lv_room (Nat.le_of_ble_eq_true rfl)) d_GK_thing_71 ⟨Nat.le_of_ble_eq_true rfl, Nat.le_of_ble_eq_true rfl⟩) hZ hS (fun v9 w9 H locs q10 hP hS => ?_) (fun x9 w9 H locs q10 hP hS => q10.elim)
            obtain ⟨hv9, hw9⟩ := q10
            subst hv9
            rw [hw9] at hP
            show W _ _ _ _ _ _ _ _ _ _ _ _ _ _ _ (F0 m 74 ls [.int (x_lf t wh)])
            exact hv_iret (v := x_lf t wh) hQ hx hb hr hZ hS hP hlocks d_GK_thing_74 (⟨by rw [x_thing, hf]; dsimp only; rw [if_neg c19, if_neg (by decide)], rfl⟩)
        · exact absurd c34 (by decide)
      · refine lv_aload hx hb d_GK_thing_22 (lv_at hl 0 rfl) ?_
        refine va_get (D := D) (ci := 6) (v := .ref pa) (C := R_Lk) (T := F_Lk) (N := 4) hx hb hts i_Lk hown hK (hv_one hP h0) 0 rfl rfl 0 (by decide) (hts _ k_GK_202) (fun _ h9 => h9) rfl d_GK_thing_24 ?_
        refine va_alen (v := nI t.ps.length) hx hb hK (hv_one hP hp) 0 4 rfl rfl rfl d_GK_thing_27 ?_
        exact hv_iret (v := nI t.ps.length) hQ hx hb hr hZ hS hP hlocks d_GK_thing_28 (⟨by rw [x_thing, hf]; dsimp only; rw [if_pos c19], rfl⟩)

abbrev rm_GK_chain : Room := { frames := 3, cells := 0, slots := 0, locals := 70 }
set_option maxHeartbeats 4000000 in
set_option maxRecDepth 100000 in
theorem c_GK_chain {l : Launch} {s0 : State} {D : va_G} {ca : Nat → ClassId} (C : hv_C l s0 D (hv_tys ca)) {w : hv_W} (N : hv_N s0) {L : Nat → Nat} {w0 : hv_W} {σ : gS} {P : cT} (n o k : Int32) (hM : cK ca L w0 σ P w) (hR : cR ca L σ P w) (hW : gW σ)  :
    hv_Met l y_GK_chain [.code y_GK_chain b_GK_chain 4 (some .int)] rm_GK_chain (hv_Pc s0 D w [.ref (L 0), .int n, .int o, .int k]) (hv_Q s0 D (fun v w' => (∃ r, v = some (.int r) ∧ x_kth σ.now n o k r) ∧ w' = w) (fun _ _ => False)) 0 0 (hv_A s0.heap.size) := by
  refine hv_enter C _ (by decide) (Nat.le_of_ble_eq_true rfl) ?_
  intro p e s m below meth c ls Q hQ hx hb hr hml hown hts hK hZ hlocks hname hout htr hP hl
  have hown : s.vm.findClass R_GK = some m.cls := hown
  have hS : va_S (hv_A s0.heap.size) s.heap s.heap [] := va_S.rf
  have hl : lv_has ls 4 [(0, .ref (L 0)), (1, .int n), (2, .int o), (3, .int k)] := hl
  refine lv_aload_n hx hb d_GK_chain_0 rfl (lv_at hl 0 rfl) ?_
  have h1 : w (L 0) = some (.inr (0, [.ref (L 1), .ref (L 2), .ref (L 3), .ref (L 4), .ref (L 5), .ref (L 6), .ref (L 7), .int (σ.err), .int (nI (σ.sc)), .int (nI (σ.ec)), .int (σ.ins), .int (σ.off)])) := hM.1.2 0 (by decide)
  refine va_get (D := D) (ci := 0) (v := .ref (L 1)) (C := R_GK) (T := F_GK) (N := 12) hx hb hts i_GK hown hK (hv_one hP h1) 0 rfl rfl 0 (by decide) (hts _ k_GK_10) (fun _ h9 => h9) rfl d_GK_chain_1 ?_
  refine lv_iload_n hx hb d_GK_chain_4 rfl (lv_at hl 1 rfl) ?_
  refine lv_iload_n hx hb d_GK_chain_5 rfl (lv_at hl 2 rfl) ?_
  refine lv_iload_n hx hb d_GK_chain_6 rfl (lv_at hl 3 rfl) ?_
  have h2 : w (L 1) = some (.inr (1, [.ref (L 8), .ref (L 9)])) := hM.1.2 1 (by decide)
  have h3 : w (L 9) = some (.inl (ca 6, 96, .inr (.inr (.inr (.inr P.nL))))) := hM.1.2 9 (by decide)
  refine hv_call (hv_runV (As := [.int n, .int o, .int k]) (rest := []) (c_Gr_linkInChain C n o k h2 h3 (g_lkf_ok hR.1)) (hv_cw C hZ kc_Gr_linkInChain kn_Gr ⟨rfl, rfl, Nat.le_of_ble_eq_true rfl, Nat.le_of_ble_eq_true rfl⟩) hv_blind (hv_pre hZ hS hP) hx hml hb hown (hts _ k_GK_216) (hts _ ki_Gr_linkInChain) (hts _ ksel_Gr_Gr_linkInChain) hy_Gr_linkInChain (hts _ kc_Gr_linkInChain) (va_recv hK (hv_one hP h2) (ci := 1) (q0 := 0) rfl rfl) rfl hl.1 rfl (lv_room (Nat.le_of_ble_eq_true rfl)) d_GK_chain_7 ⟨Nat.le_of_ble_eq_true rfl, Nat.le_of_ble_eq_true rfl⟩) hZ hS (fun v9 w4 H locs q5 hP hS => ?_) (fun x9 w4 H locs q5 hP hS => q5.elim)
  obtain ⟨⟨r, hv9, hkt⟩, hw9⟩ := q5
  subst hv9
  rw [hw9] at hP
  show W _ _ _ _ _ _ _ _ _ _ _ _ _ _ _ (F0 m 10 ls [.int r])
  exact hv_iret (v := r) hQ hx hb hr hZ hS hP hlocks d_GK_chain_10 (⟨⟨r, rfl, x_kth_of hR.1 hkt⟩, rfl⟩)

abbrev rm_GK_has : Room := { frames := 2, cells := 0, slots := 0, locals := 43 }
set_option maxHeartbeats 4000000 in
set_option maxRecDepth 100000 in
theorem c_GK_has {l : Launch} {s0 : State} {D : va_G} {ca : Nat → ClassId} (C : hv_C l s0 D (hv_tys ca)) {w : hv_W} (N : hv_N s0) {L : Nat → Nat} {w0 : hv_W} {σ : gS} {P : cT} (n y : Int32) (hM : cK ca L w0 σ P w) (hR : cR ca L σ P w) (hW : gW σ)  :
    hv_Met l y_GK_has [.code y_GK_has b_GK_has 4 (some .boolean)] rm_GK_has (hv_Pc s0 D w [.ref (L 0), .int n, .int y]) (hv_Q s0 D (fun v w' => v = some (.int (x_has σ n y)) ∧ w' = w) (fun _ _ => False)) 0 0 (hv_A s0.heap.size) := by
  refine hv_enter C _ (by decide) (Nat.le_of_ble_eq_true rfl) ?_
  intro p e s m below meth c ls Q hQ hx hb hr hml hown hts hK hZ hlocks hname hout htr hP hl
  have hown : s.vm.findClass R_GK = some m.cls := hown
  have hS : va_S (hv_A s0.heap.size) s.heap s.heap [] := va_S.rf
  have hl : lv_has ls 4 [(0, .ref (L 0)), (1, .int n), (2, .int y)] := hl
  refine lv_aload_n hx hb d_GK_has_0 rfl (lv_at hl 0 rfl) ?_
  have h1 : w (L 0) = some (.inr (0, [.ref (L 1), .ref (L 2), .ref (L 3), .ref (L 4), .ref (L 5), .ref (L 6), .ref (L 7), .int (σ.err), .int (nI (σ.sc)), .int (nI (σ.ec)), .int (σ.ins), .int (σ.off)])) := hM.1.2 0 (by decide)
  refine va_get (D := D) (ci := 0) (v := .ref (L 1)) (C := R_GK) (T := F_GK) (N := 12) hx hb hts i_GK hown hK (hv_one hP h1) 0 rfl rfl 0 (by decide) (hts _ k_GK_10) (fun _ h9 => h9) rfl d_GK_has_1 ?_
  refine lv_iload_n hx hb d_GK_has_4 rfl (lv_at hl 1 rfl) ?_
  have h2 : w (L 1) = some (.inr (1, [.ref (L 8), .ref (L 9)])) := hM.1.2 1 (by decide)
  have h3 : w (L 8) = some (.inl (ca 5, 64, .inr (.inr (.inr (.inr P.nN))))) := hM.1.2 8 (by decide)
  refine hv_call (hv_runV (As := [.int n]) (rest := []) (c_Gr_nodeAt C n h2 h3) (hv_cw C hZ kc_Gr_nodeAt kn_Gr ⟨rfl, rfl, Nat.le_of_ble_eq_true rfl, Nat.le_of_ble_eq_true rfl⟩) hv_blind (hv_pre hZ hS hP) hx hml hb hown (hts _ k_GK_220) (hts _ ki_Gr_nodeAt) (hts _ ksel_Gr_Gr_nodeAt) hy_Gr_nodeAt (hts _ kc_Gr_nodeAt) (va_recv hK (hv_one hP h2) (ci := 1) (q0 := 0) rfl rfl) rfl hl.1 rfl (lv_room (Nat.le_of_ble_eq_true rfl)) d_GK_has_5 ⟨Nat.le_of_ble_eq_true rfl, Nat.le_of_ble_eq_true rfl⟩) hZ hS (fun v9 w4 H locs q5 hP hS => ?_) (fun x9 w4 H locs q5 hP hS => q5.elim)
  obtain ⟨hv9, hw9⟩ := q5
  subst hv9
  rw [hw9] at hP
  show W _ _ _ _ _ _ _ _ _ _ _ _ _ _ _ (F0 m 8 ls [va_rf (gk_sel P.nN 64 n)])
  cases h9o : gk_sel P.nN 64 n with
  | none =>
    show W _ _ _ _ _ _ _ _ _ _ _ _ _ _ _ (F0 m 8 ls [.null])
    refine lv_astore_nN (lv' := [(3, .null), (0, .ref (L 0)), (1, .int n), (2, .int y)]) hx hb d_GK_has_8 rfl hl (by decide) rfl (fun ls hl => ?_)
    refine lv_aload_nN hx hb d_GK_has_9 rfl (lv_at hl 0 rfl) ?_
    refine lv_ifnullN (tgt := 25) hx hb d_GK_has_10 (by decide) ?_
    refine lv_iconst (v := 0) hx hb d_GK_has_25 (by decide) ?_
    exact hv_zret (v := 0) hQ hx hb hr (by decide) hZ hS hP hlocks d_GK_has_26 (⟨by rw [x_has, gk_sel_noneN hR.1 h9o], rfl⟩)
  | some a =>
    show W _ _ _ _ _ _ _ _ _ _ _ _ _ _ _ (F0 m 8 ls [.ref a])
    obtain ⟨i, t, hi, he, ha, ht, hf, hma, pa, lb, h0, hls, hps⟩ := gk_sel_someN hR.1 h9o
    have hl4 : t.lab.length ≤ 4 := (hW.t (by omega) ht).1
    refine lv_astore_n (lv' := [(3, .ref a), (0, .ref (L 0)), (1, .int n), (2, .int y)]) hx hb d_GK_has_8 rfl hl (by decide) rfl (fun ls hl => ?_)
    refine lv_aload_n hx hb d_GK_has_9 rfl (lv_at hl 0 rfl) ?_
    refine lv_ifnull hx hb d_GK_has_10 ?_
    refine lv_aload_n hx hb d_GK_has_13 rfl (lv_at hl 0 rfl) ?_
    refine lv_iload_n hx hb d_GK_has_14 rfl (lv_at hl 3 rfl) ?_
    refine hv_call (hv_runV (As := [.int y]) (rest := []) (c_Nd_isLabelled C y h0 hls hl4) (hv_cw C hZ kc_Nd_isLabelled kn_Nd ⟨rfl, rfl, Nat.le_of_ble_eq_true rfl, Nat.le_of_ble_eq_true rfl⟩) hv_blind (hv_pre hZ hS hP) hx hml hb hown (hts _ k_GK_72) (hts _ ki_Nd_isLabelled) (hts _ ksel_Nd_Nd_isLabelled) hy_Nd_isLabelled (hts _ kc_Nd_isLabelled) (va_recv hK (hv_one hP h0) (ci := 5) (q0 := 0) rfl rfl) rfl hl.1 rfl (lv_room (Nat.le_of_ble_eq_true rfl)) d_GK_has_15 ⟨Nat.le_of_ble_eq_true rfl, Nat.le_of_ble_eq_true rfl⟩) hZ hS (fun v9 w6 H locs q7 hP hS => ?_) (fun x9 w6 H locs q7 hP hS => q7.elim)
    obtain ⟨hv9, hw9⟩ := q7
    subst hv9
    rw [hw9] at hP
    show W _ _ _ _ _ _ _ _ _ _ _ _ _ _ _ (F0 m 18 ls [.int (if y ∈ t.lab then 1 else 0)])
    refine lv_if_eq (tgt := 25) hx hb d_GK_has_18 (by decide) (fun c18 => ?_) (fun c18 => ?_)
    · refine lv_iconst (v := 0) hx hb d_GK_has_25 (by decide) ?_
      exact hv_zret (v := 0) hQ hx hb hr (by decide) hZ hS hP hlocks d_GK_has_26 (⟨by rw [x_has, hf]; dsimp only; rw [c18], rfl⟩)
    · refine lv_iconst (v := 1) hx hb d_GK_has_21 (by decide) ?_
      refine lv_goto (tgt := 26) hx hb d_GK_has_22 (by decide) ?_
      exact hv_zret (v := 1) hQ hx hb hr (by decide) hZ hS hP hlocks d_GK_has_26 (⟨by rw [x_has, hf]; dsimp only; rw [if_pos (Classical.byContradiction fun z => c18 (if_neg z))], rfl⟩)

abbrev rm_GK_state : Room := { frames := 1, cells := 0, slots := 0, locals := 22 }
set_option maxHeartbeats 4000000 in
set_option maxRecDepth 100000 in
theorem c_GK_state {l : Launch} {s0 : State} {D : va_G} {ca : Nat → ClassId} (C : hv_C l s0 D (hv_tys ca)) {w : hv_W} (N : hv_N s0) {L : Nat → Nat} {w0 : hv_W} {σ : gS} {P : cT} (wh : Int32) (hM : cK ca L w0 σ P w) (hR : cR ca L σ P w) (hW : gW σ)  :
    hv_Met l y_GK_state [.code y_GK_state b_GK_state 2 (some .int)] rm_GK_state (hv_Pc s0 D w [.ref (L 0), .int wh]) (hv_Q s0 D (fun v w' => v = some (.int (x_state σ wh)) ∧ w' = w) (fun _ _ => False)) 0 0 (hv_A s0.heap.size) := by
  refine hv_enter C _ (by decide) (Nat.le_of_ble_eq_true rfl) ?_
  intro p e s m below meth c ls Q hQ hx hb hr hml hown hts hK hZ hlocks hname hout htr hP hl
  have hown : s.vm.findClass R_GK = some m.cls := hown
  have hS : va_S (hv_A s0.heap.size) s.heap s.heap [] := va_S.rf
  have hl : lv_has ls 2 [(0, .ref (L 0)), (1, .int wh)] := hl
  refine lv_iload_n hx hb d_GK_state_0 rfl (lv_at hl 1 rfl) ?_
  by_cases s1_0 : wh = 0
  · refine lv_tableIn (tgt := 44) hx hb d_GK_state_1 (by rw [s1_0]; decide) (by rw [s1_0]; decide) (by rw [s1_0]; rfl) (by decide) ?_
    refine lv_aload_n hx hb d_GK_state_44 rfl (lv_at hl 0 rfl) ?_
    have h1 : w (L 0) = some (.inr (0, [.ref (L 1), .ref (L 2), .ref (L 3), .ref (L 4), .ref (L 5), .ref (L 6), .ref (L 7), .int (σ.err), .int (nI (σ.sc)), .int (nI (σ.ec)), .int (σ.ins), .int (σ.off)])) := hM.1.2 0 (by decide)
    refine va_get (D := D) (ci := 0) (v := .ref (L 1)) (C := R_GK) (T := F_GK) (N := 12) hx hb hts i_GK hown hK (hv_one hP h1) 0 rfl rfl 0 (by decide) (hts _ k_GK_10) (fun _ h9 => h9) rfl d_GK_state_45 ?_
    have h2 : w (L 1) = some (.inr (1, [.ref (L 8), .ref (L 9)])) := hM.1.2 1 (by decide)
    have h3 : w (L 8) = some (.inl (ca 5, 64, .inr (.inr (.inr (.inr P.nN))))) := hM.1.2 8 (by decide)
    refine hv_call (hv_runV (As := []) (rest := []) (c_Gr_countNodes C h2 h3) (hv_cw C hZ kc_Gr_countNodes kn_Gr ⟨rfl, rfl, Nat.le_of_ble_eq_true rfl, Nat.le_of_ble_eq_true rfl⟩) hv_blind (hv_pre hZ hS hP) hx hml hb hown (hts _ k_GK_175) (hts _ ki_Gr_countNodes) (hts _ ksel_Gr_Gr_countNodes) hy_Gr_countNodes (hts _ kc_Gr_countNodes) (va_recv hK (hv_one hP h2) (ci := 1) (q0 := 0) rfl rfl) rfl hl.1 rfl (lv_room (Nat.le_of_ble_eq_true rfl)) d_GK_state_48 ⟨Nat.le_of_ble_eq_true rfl, Nat.le_of_ble_eq_true rfl⟩) hZ hS (fun v9 w4 H locs q5 hP hS => ?_) (fun x9 w4 H locs q5 hP hS => q5.elim)
    rw [g_cntN hR.1 _ (Nat.le_refl _)] at q5
    obtain ⟨hv9, hw9⟩ := q5
    subst hv9
    rw [hw9] at hP
    show W _ _ _ _ _ _ _ _ _ _ _ _ _ _ _ (F0 m 51 ls [.int (nI (x_cnt σ.now 0 64))])
    exact hv_iret (v := nI (x_cnt σ.now 0 64)) hQ hx hb hr hZ hS hP hlocks d_GK_state_51 (⟨by rw [x_state, if_pos s1_0], rfl⟩)
  by_cases s1_1 : wh = 1
  · refine lv_tableIn (tgt := 52) hx hb d_GK_state_1 (by rw [s1_1]; decide) (by rw [s1_1]; decide) (by rw [s1_1]; rfl) (by decide) ?_
    refine lv_aload_n hx hb d_GK_state_52 rfl (lv_at hl 0 rfl) ?_
    have h6 : w (L 0) = some (.inr (0, [.ref (L 1), .ref (L 2), .ref (L 3), .ref (L 4), .ref (L 5), .ref (L 6), .ref (L 7), .int (σ.err), .int (nI (σ.sc)), .int (nI (σ.ec)), .int (σ.ins), .int (σ.off)])) := hM.1.2 0 (by decide)
    refine va_get (D := D) (ci := 0) (v := .ref (L 1)) (C := R_GK) (T := F_GK) (N := 12) hx hb hts i_GK hown hK (hv_one hP h6) 0 rfl rfl 0 (by decide) (hts _ k_GK_10) (fun _ h9 => h9) rfl d_GK_state_53 ?_
    have h7 : w (L 1) = some (.inr (1, [.ref (L 8), .ref (L 9)])) := hM.1.2 1 (by decide)
    have h8 : w (L 9) = some (.inl (ca 6, 96, .inr (.inr (.inr (.inr P.nL))))) := hM.1.2 9 (by decide)
    refine hv_call (hv_runV (As := []) (rest := []) (c_Gr_countLinks C h7 h8) (hv_cw C hZ kc_Gr_countLinks kn_Gr ⟨rfl, rfl, Nat.le_of_ble_eq_true rfl, Nat.le_of_ble_eq_true rfl⟩) hv_blind (hv_pre hZ hS hP) hx hml hb hown (hts _ k_GK_179) (hts _ ki_Gr_countLinks) (hts _ ksel_Gr_Gr_countLinks) hy_Gr_countLinks (hts _ kc_Gr_countLinks) (va_recv hK (hv_one hP h7) (ci := 1) (q0 := 0) rfl rfl) rfl hl.1 rfl (lv_room (Nat.le_of_ble_eq_true rfl)) d_GK_state_56 ⟨Nat.le_of_ble_eq_true rfl, Nat.le_of_ble_eq_true rfl⟩) hZ hS (fun v9 w9 H locs q10 hP hS => ?_) (fun x9 w9 H locs q10 hP hS => q10.elim)
    rw [g_cntL hR.1 _ (Nat.le_refl _)] at q10
    obtain ⟨hv9, hw9⟩ := q10
    subst hv9
    rw [hw9] at hP
    show W _ _ _ _ _ _ _ _ _ _ _ _ _ _ _ (F0 m 59 ls [.int (nI (x_cnt σ.now 64 96))])
    exact hv_iret (v := nI (x_cnt σ.now 64 96)) hQ hx hb hr hZ hS hP hlocks d_GK_state_59 (⟨by rw [x_state, if_neg s1_0, if_pos s1_1], rfl⟩)
  by_cases s1_2 : wh = 2
  · refine lv_tableIn (tgt := 60) hx hb d_GK_state_1 (by rw [s1_2]; decide) (by rw [s1_2]; decide) (by rw [s1_2]; rfl) (by decide) ?_
    refine lv_aload_n hx hb d_GK_state_60 rfl (lv_at hl 0 rfl) ?_
    have h11 : w (L 0) = some (.inr (0, [.ref (L 1), .ref (L 2), .ref (L 3), .ref (L 4), .ref (L 5), .ref (L 6), .ref (L 7), .int (σ.err), .int (nI (σ.sc)), .int (nI (σ.ec)), .int (σ.ins), .int (σ.off)])) := hM.1.2 0 (by decide)
    refine va_get (D := D) (ci := 0) (v := .ref (L 4)) (C := R_GK) (T := F_GK) (N := 12) hx hb hts i_GK hown hK (hv_one hP h11) 0 rfl rfl 3 (by decide) (hts _ k_GK_25) (fun _ h9 => h9) rfl d_GK_state_61 ?_
    have h12 : w (L 4) = some (.inr (2, [.int (σ.wr), .int (nI (σ.en)), .int (nI (σ.lo)), .int (σ.tr), .int (nI (σ.due))])) := hM.1.2 4 (by decide)
    refine va_get (D := D) (ci := 2) (v := .int (σ.wr)) (C := R_Lg) (T := F_Lg) (N := 5) hx hb hts i_Lg hown hK (hv_one hP h12) 0 rfl rfl 0 (by decide) (hts _ k_GK_247) (fun _ h9 => h9) rfl d_GK_state_64 ?_
    exact hv_iret (v := σ.wr) hQ hx hb hr hZ hS hP hlocks d_GK_state_67 (⟨by rw [x_state, if_neg s1_0, if_neg s1_1, if_pos s1_2], rfl⟩)
  by_cases s1_3 : wh = 3
  · refine lv_tableIn (tgt := 68) hx hb d_GK_state_1 (by rw [s1_3]; decide) (by rw [s1_3]; decide) (by rw [s1_3]; rfl) (by decide) ?_
    refine lv_aload_n hx hb d_GK_state_68 rfl (lv_at hl 0 rfl) ?_
    have h13 : w (L 0) = some (.inr (0, [.ref (L 1), .ref (L 2), .ref (L 3), .ref (L 4), .ref (L 5), .ref (L 6), .ref (L 7), .int (σ.err), .int (nI (σ.sc)), .int (nI (σ.ec)), .int (σ.ins), .int (σ.off)])) := hM.1.2 0 (by decide)
    refine va_get (D := D) (ci := 0) (v := .ref (L 4)) (C := R_GK) (T := F_GK) (N := 12) hx hb hts i_GK hown hK (hv_one hP h13) 0 rfl rfl 3 (by decide) (hts _ k_GK_25) (fun _ h9 => h9) rfl d_GK_state_69 ?_
    have h14 : w (L 4) = some (.inr (2, [.int (σ.wr), .int (nI (σ.en)), .int (nI (σ.lo)), .int (σ.tr), .int (nI (σ.due))])) := hM.1.2 4 (by decide)
    refine va_get (D := D) (ci := 2) (v := .int (nI (σ.en))) (C := R_Lg) (T := F_Lg) (N := 5) hx hb hts i_Lg hown hK (hv_one hP h14) 0 rfl rfl 1 (by decide) (hts _ k_GK_250) (fun _ h9 => h9) rfl d_GK_state_72 ?_
    refine lv_aload_n hx hb d_GK_state_75 rfl (lv_at hl 0 rfl) ?_
    refine va_get (D := D) (ci := 0) (v := .ref (L 4)) (C := R_GK) (T := F_GK) (N := 12) hx hb hts i_GK hown hK (hv_one hP h13) 0 rfl rfl 3 (by decide) (hts _ k_GK_25) (fun _ h9 => h9) rfl d_GK_state_76 ?_
    refine va_get (D := D) (ci := 2) (v := .int (nI (σ.lo))) (C := R_Lg) (T := F_Lg) (N := 5) hx hb hts i_Lg hown hK (hv_one hP h14) 0 rfl rfl 2 (by decide) (hts _ k_GK_253) (fun _ h9 => h9) rfl d_GK_state_79 ?_
    refine gk_iadd (x := σ.en) (y := σ.lo) hx hb d_GK_state_82 ?_
    exact hv_iret (v := nI ((σ.en) + (σ.lo))) hQ hx hb hr hZ hS hP hlocks d_GK_state_83 (⟨by rw [x_state, if_neg s1_0, if_neg s1_1, if_neg s1_2, if_pos s1_3], rfl⟩)
  by_cases s1_4 : wh = 4
  · refine lv_tableIn (tgt := 84) hx hb d_GK_state_1 (by rw [s1_4]; decide) (by rw [s1_4]; decide) (by rw [s1_4]; rfl) (by decide) ?_
    refine lv_aload_n hx hb d_GK_state_84 rfl (lv_at hl 0 rfl) ?_
    have h15 : w (L 0) = some (.inr (0, [.ref (L 1), .ref (L 2), .ref (L 3), .ref (L 4), .ref (L 5), .ref (L 6), .ref (L 7), .int (σ.err), .int (nI (σ.sc)), .int (nI (σ.ec)), .int (σ.ins), .int (σ.off)])) := hM.1.2 0 (by decide)
    refine va_get (D := D) (ci := 0) (v := .int (σ.off)) (C := R_GK) (T := F_GK) (N := 12) hx hb hts i_GK hown hK (hv_one hP h15) 0 rfl rfl 11 (by decide) (hts _ k_GK_159) (fun _ h9 => h9) rfl d_GK_state_85 ?_
    refine lv_if_eq (tgt := 95) hx hb d_GK_state_88 (by decide) (fun c88 => ?_) (fun c88 => ?_)
    · refine lv_iconst (v := 0) hx hb d_GK_state_95 (by decide) ?_
      exact hv_iret (v := 0) hQ hx hb hr hZ hS hP hlocks d_GK_state_96 (⟨by rw [x_state, if_neg s1_0, if_neg s1_1, if_neg s1_2, if_neg s1_3, if_pos s1_4, if_pos c88], rfl⟩)
    · refine lv_iconst (v := 1) hx hb d_GK_state_91 (by decide) ?_
      refine lv_goto (tgt := 96) hx hb d_GK_state_92 (by decide) ?_
      exact hv_iret (v := 1) hQ hx hb hr hZ hS hP hlocks d_GK_state_96 (⟨by rw [x_state, if_neg s1_0, if_neg s1_1, if_neg s1_2, if_neg s1_3, if_pos s1_4, if_neg c88], rfl⟩)
  by_cases s1_5 : wh = 5
  · refine lv_tableIn (tgt := 97) hx hb d_GK_state_1 (by rw [s1_5]; decide) (by rw [s1_5]; decide) (by rw [s1_5]; rfl) (by decide) ?_
    refine lv_aload_n hx hb d_GK_state_97 rfl (lv_at hl 0 rfl) ?_
    have h16 : w (L 0) = some (.inr (0, [.ref (L 1), .ref (L 2), .ref (L 3), .ref (L 4), .ref (L 5), .ref (L 6), .ref (L 7), .int (σ.err), .int (nI (σ.sc)), .int (nI (σ.ec)), .int (σ.ins), .int (σ.off)])) := hM.1.2 0 (by decide)
    refine va_get (D := D) (ci := 0) (v := .int (σ.ins)) (C := R_GK) (T := F_GK) (N := 12) hx hb hts i_GK hown hK (hv_one hP h16) 0 rfl rfl 10 (by decide) (hts _ k_GK_136) (fun _ h9 => h9) rfl d_GK_state_98 ?_
    refine lv_if_eq (tgt := 108) hx hb d_GK_state_101 (by decide) (fun c101 => ?_) (fun c101 => ?_)
    · refine lv_iconst (v := 0) hx hb d_GK_state_108 (by decide) ?_
      exact hv_iret (v := 0) hQ hx hb hr hZ hS hP hlocks d_GK_state_109 (⟨by rw [x_state, if_neg s1_0, if_neg s1_1, if_neg s1_2, if_neg s1_3, if_neg s1_4, if_pos s1_5, if_pos c101], rfl⟩)
    · refine lv_iconst (v := 1) hx hb d_GK_state_104 (by decide) ?_
      refine lv_goto (tgt := 109) hx hb d_GK_state_105 (by decide) ?_
      exact hv_iret (v := 1) hQ hx hb hr hZ hS hP hlocks d_GK_state_109 (⟨by rw [x_state, if_neg s1_0, if_neg s1_1, if_neg s1_2, if_neg s1_3, if_neg s1_4, if_pos s1_5, if_neg c101], rfl⟩)
  by_cases s1_6 : wh = 6
  · refine lv_tableIn (tgt := 110) hx hb d_GK_state_1 (by rw [s1_6]; decide) (by rw [s1_6]; decide) (by rw [s1_6]; rfl) (by decide) ?_
    refine lv_aload_n hx hb d_GK_state_110 rfl (lv_at hl 0 rfl) ?_
    have h17 : w (L 0) = some (.inr (0, [.ref (L 1), .ref (L 2), .ref (L 3), .ref (L 4), .ref (L 5), .ref (L 6), .ref (L 7), .int (σ.err), .int (nI (σ.sc)), .int (nI (σ.ec)), .int (σ.ins), .int (σ.off)])) := hM.1.2 0 (by decide)
    refine va_get (D := D) (ci := 0) (v := .int (nI (σ.ec))) (C := R_GK) (T := F_GK) (N := 12) hx hb hts i_GK hown hK (hv_one hP h17) 0 rfl rfl 9 (by decide) (hts _ k_GK_162) (fun _ h9 => h9) rfl d_GK_state_111 ?_
    refine lv_aload_n hx hb d_GK_state_114 rfl (lv_at hl 0 rfl) ?_
    refine va_get (D := D) (ci := 0) (v := .int (nI (σ.sc))) (C := R_GK) (T := F_GK) (N := 12) hx hb hts i_GK hown hK (hv_one hP h17) 0 rfl rfl 8 (by decide) (hts _ k_GK_133) (fun _ h9 => h9) rfl d_GK_state_115 ?_
    refine gk_iadd (x := σ.ec) (y := σ.sc) hx hb d_GK_state_118 ?_
    exact hv_iret (v := nI ((σ.ec) + (σ.sc))) hQ hx hb hr hZ hS hP hlocks d_GK_state_119 (⟨by rw [x_state, if_neg s1_0, if_neg s1_1, if_neg s1_2, if_neg s1_3, if_neg s1_4, if_neg s1_5, if_pos s1_6], rfl⟩)
  have t1_0 : (wh).toInt ≠ 0 := fun q => s1_0 (Int32.toInt_inj.mp (q.trans (by decide)))
  have t1_1 : (wh).toInt ≠ 1 := fun q => s1_1 (Int32.toInt_inj.mp (q.trans (by decide)))
  have t1_2 : (wh).toInt ≠ 2 := fun q => s1_2 (Int32.toInt_inj.mp (q.trans (by decide)))
  have t1_3 : (wh).toInt ≠ 3 := fun q => s1_3 (Int32.toInt_inj.mp (q.trans (by decide)))
  have t1_4 : (wh).toInt ≠ 4 := fun q => s1_4 (Int32.toInt_inj.mp (q.trans (by decide)))
  have t1_5 : (wh).toInt ≠ 5 := fun q => s1_5 (Int32.toInt_inj.mp (q.trans (by decide)))
  have t1_6 : (wh).toInt ≠ 6 := fun q => s1_6 (Int32.toInt_inj.mp (q.trans (by decide)))
  refine lv_tableOut (tgt := 120) hx hb d_GK_state_1 (by omega) (by decide) ?_
  refine lv_iconst (v := (-1)) hx hb d_GK_state_120 (by decide) ?_
  exact hv_iret (v := (-1)) hQ hx hb hr hZ hS hP hlocks d_GK_state_121 (⟨by rw [x_state, if_neg s1_0, if_neg s1_1, if_neg s1_2, if_neg s1_3, if_neg s1_4, if_neg s1_5, if_neg s1_6], rfl⟩)

