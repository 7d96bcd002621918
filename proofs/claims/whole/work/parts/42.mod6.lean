abbrev rm_Model_label : Room := { frames := 3, cells := 0, slots := 0, locals := 66 }
set_option maxHeartbeats 4000000 in
set_option maxRecDepth 100000 in
theorem c_Model_label {l : Launch} {s0 : State} {D : va_G} {ca : Nat → ClassId} (C : hv_C l s0 D (hv_tys ca)) {w : hv_W} {K : Nat → Nat} {w0 : hv_W} {A : mA} {B : mB} {σ : gS} (n y o : Int32) (hM : mK ca K w0 A B w) (hRel : mRel A B σ) (hW : gW σ) (ho : o = 0 ∨ o = 1)  :
    hv_Met l y_Model_label [.code y_Model_label b_Model_label 8 (some .boolean)] rm_Model_label (hv_Pc s0 D w [.ref (K 0), .int n, .int y, .int o]) (hv_Q s0 D (fun v w' => mRet ca K w0 (x_label σ n y o) v w') (fun _ _ => False)) 0 0 (hv_A s0.heap.size) := by
  refine hv_enter C _ (by decide) (Nat.le_of_ble_eq_true rfl) ?_
  intro p e s m below meth c ls Q hQ hx hb hr hml hown hts hK hZ hlocks hname hout htr hP hl
  have hown : s.vm.findClass R_Model = some m.cls := hown
  have hS : va_S (hv_A s0.heap.size) s.heap s.heap [] := va_S.rf
  have hl : lv_has ls 8 [(0, .ref (K 0)), (1, .int n), (2, .int y), (3, .int o)] := hl
  obtain ⟨t9, k9, p9, hA9⟩ := mAo_of hRel
  subst hA9
  have hb9 := hW.hb
  have htp9 := hW.tape
  have hdu9 : σ.due ≤ 2000 := hW.2.2.1.2.2.2
  have hen9 : σ.en ≤ 250 := hW.2.2.1.2.1
  have hlo9 : σ.lo ≤ 250 := hW.2.2.1.2.2.1
  refine lv_aload_n hx hb d_Model_label_0 rfl (lv_at hl 0 rfl) ?_
  have h1 : w (K 0) = some (.inr (7, [.int t9, .ref (K 1), .ref (K 2), .ref (K 3), .ref (K 4), .ref (K 5), .ref (K 6), .ref (K 7), .ref (K 8), .ref (K 9), .ref (K 10), .ref (K 11), .ref (K 12), .int (nI (σ.tape.length)), .ref (K 13), .int (σ.err), .int (σ.off), .int (σ.ins), .int (nI (σ.sc)), .int (nI (σ.ec)), .int (nI (σ.en)), .int (σ.tr), .int (nI (σ.lo)), .int (σ.wr), .int (nI (σ.due))])) := hM.1.2 0 (by decide)
  refine va_get (D := D) (ci := 7) (v := .int (σ.off)) (C := R_Model) (T := F_Model) (N := 25) hx hb hts i_Model hown hK (hv_one hP h1) 0 rfl rfl 16 (by decide) (hts _ k_Model_62) (fun _ h9 => h9) rfl d_Model_label_1 ?_
  refine lv_if_eq (tgt := 11) hx hb d_Model_label_4 (by decide) (fun c4 => ?_) (fun c4 => ?_)
  · refine lv_aload_n hx hb d_Model_label_11 rfl (lv_at hl 0 rfl) ?_
    refine lv_iconst (v := 4) hx hb d_Model_label_12 (by decide) ?_
    refine lv_iload_n hx hb d_Model_label_13 rfl (lv_at hl 1 rfl) ?_
    refine hv_call (hv_runV (As := [.int 4, .int n]) (rest := []) (c_Model_find C 4 n hM) (hv_cw C hZ kc_Model_find kn_Model ⟨rfl, rfl, Nat.le_of_ble_eq_true rfl, Nat.le_of_ble_eq_true rfl⟩) hv_blind (hv_pre hZ hS hP) hx hml hb hown (hts _ k_Model_123) (hts _ ki_Model_find) (hts _ ksel_Model_Model_find) hy_Model_find (hts _ kc_Model_find) (va_recv hK (hv_one hP h1) (ci := 7) (q0 := 0) rfl rfl) rfl hl.1 rfl (lv_room (Nat.le_of_ble_eq_true rfl)) d_Model_label_14 ⟨Nat.le_of_ble_eq_true rfl, Nat.le_of_ble_eq_true rfl⟩) hZ hS (fun v9 w2 H locs q3 hP hS => ?_) (fun x9 w2 H locs q3 hP hS => q3.elim)
    obtain ⟨hv9, hw9⟩ := q3
    subst hv9
    rw [hw9] at hP
    show W _ _ _ _ _ _ _ _ _ _ _ _ _ _ _ (F0 m 17 ls [.int (m_find B 4 n)])
    rw [m_find_eq hRel.1.1]
    cases hf : x_find σ.now 4 n with
    | none =>
      rw [m_find2_n hf]
      show W _ _ _ _ _ _ _ _ _ _ _ _ _ _ _ (F0 m 17 ls [.int ((-1))])
      refine lv_istore (lv' := [(4, .int ((-1))), (0, .ref (K 0)), (1, .int n), (2, .int y), (3, .int o)]) hx hb d_Model_label_17 hl (by decide) rfl (fun ls hl => ?_)
      refine lv_iload hx hb d_Model_label_19 (lv_at hl 0 rfl) ?_
      refine lv_if_lt (tgt := 39) hx hb d_Model_label_21 (by decide) (fun c21 => ?_) (fun c21 => ?_)
      · refine lv_iconst (v := 0) hx hb d_Model_label_39 (by decide) ?_
        refine lv_istore (lv' := [(5, .int 0), (4, .int ((-1))), (0, .ref (K 0)), (1, .int n), (2, .int y), (3, .int o)]) hx hb d_Model_label_40 hl (by decide) rfl (fun ls hl => ?_)
        refine lv_aload_n hx hb d_Model_label_42 rfl (lv_at hl 2 rfl) ?_
        refine lv_iload hx hb d_Model_label_43 (lv_at hl 1 rfl) ?_
        refine lv_if_ge (tgt := 52) hx hb d_Model_label_45 (by decide) (fun c45 => ?_) (fun c45 => ?_)
        · exact absurd c45 (by decide)
        · refine lv_iconst (v := 1) hx hb d_Model_label_48 (by decide) ?_
          refine lv_goto (tgt := 53) hx hb d_Model_label_49 (by decide) ?_
          refine lv_iconst (v := 0) hx hb d_Model_label_53 (by decide) ?_
          refine lv_iconst (v := 0) hx hb d_Model_label_54 (by decide) ?_
          refine lv_iload hx hb d_Model_label_55 (lv_at hl 0 rfl) ?_
          refine lv_if_eq (tgt := 79) hx hb d_Model_label_57 (by decide) (fun c57 => ?_) (fun c57 => ?_)
          · refine lv_iconst (v := 0) hx hb d_Model_label_79 (by decide) ?_
            refine lv_iload hx hb d_Model_label_80 (lv_at hl 0 rfl) ?_
            refine hv_call (hv_runV (As := [.int 1, .int 0, .int 0, .int 0, .int 0]) (rest := []) (c_Model_fails C 1 0 0 0 0 hM (by show σ.ec + σ.sc ≤ 249; omega)) (hv_cw C hZ kc_Model_fails kn_Model ⟨rfl, rfl, Nat.le_of_ble_eq_true rfl, Nat.le_of_ble_eq_true rfl⟩) hv_blind (hv_pre hZ hS hP) hx hml hb hown (hts _ k_Model_116) (hts _ ki_Model_fails) (hts _ ksel_Model_Model_fails) hy_Model_fails (hts _ kc_Model_fails) (va_recv hK (hv_one hP h1) (ci := 7) (q0 := 0) rfl rfl) rfl hl.1 rfl (lv_room (Nat.le_of_ble_eq_true rfl)) d_Model_label_82 ⟨Nat.le_of_ble_eq_true rfl, Nat.le_of_ble_eq_true rfl⟩) hZ hS (fun v9 w4 H locs q5 hP hS => ?_) (fun x9 w4 H locs q5 hP hS => q5.elim)
            rcases q5 with ⟨ho9, hv9, hM⟩ | ⟨ho9, he9, hv9, hM⟩ | ⟨ho9, he9, hv9, hM⟩
            · exact absurd c4 ho9
            · exact absurd ((show m_fe (mAo t9 k9 p9 σ).earlier (mAo t9 k9 p9 σ).changes 1 0 0 0 0 = 8 by rw [m_fe, if_pos (by decide)]).symm.trans he9) (by decide)
            · rw [show m_fe (mAo t9 k9 p9 σ).earlier (mAo t9 k9 p9 σ).changes 1 0 0 0 0 = 8 by rw [m_fe, if_pos (by decide)]] at hM
              subst hv9
              show W _ _ _ _ _ _ _ _ _ _ _ _ _ _ _ (F0 m 85 ls [.int 1])
              refine lv_if_ne (tgt := 93) hx hb d_Model_label_85 (by decide) (fun c85 => ?_) (fun c85 => ?_)
              · refine lv_iconst (v := 0) hx hb d_Model_label_93 (by decide) ?_
                exact hv_zret (v := 0) hQ hx hb hr (by decide) hZ hS hP hlocks d_Model_label_94 (mRet.of (r' := ((σ.sErr 8), 1, 0)) (by rw [x_label, cif_pos c4, hf]) (fun z9 => absurd z9 (show ¬ (1 : Nat) = 0 by decide)) hM ((hRel.err 8).thr 1) rfl)
              · exact absurd c85 (by decide)
          · exact absurd c57 (by decide)
      · exact absurd c21 (by decide)
    | some it =>
      obtain ⟨i, t⟩ := it
      rw [m_find2_s hf]
      have hi : i < 160 := x_find_lt hf
      have ht : σ.now i = some t := (x_find_some hf).1
      have hw := hW.t hi ht
      show W _ _ _ _ _ _ _ _ _ _ _ _ _ _ _ (F0 m 17 ls [.int (nI i)])
      have hi64 : i < 64 := (x_find_some hf).2.elim (fun z => z.2.1) (fun z => absurd z.1 (by decide))
      have hls : mLs B i t.lab := (hRel.at hi ht).2.2.1 hi64
      have hl4 : t.lab.length ≤ 4 := hw.1
      refine lv_istore (lv' := [(4, .int (nI i)), (0, .ref (K 0)), (1, .int n), (2, .int y), (3, .int o)]) hx hb d_Model_label_17 hl (by decide) rfl (fun ls hl => ?_)
      refine lv_iload hx hb d_Model_label_19 (lv_at hl 0 rfl) ?_
      refine gk_if_lt (x := i) (tgt := 39) hx hb d_Model_label_21 (by decide) (by omega) ?_
      refine lv_aload_n hx hb d_Model_label_24 rfl (lv_at hl 1 rfl) ?_
      refine lv_iload hx hb d_Model_label_25 (lv_at hl 0 rfl) ?_
      refine lv_iload_n hx hb d_Model_label_27 rfl (lv_at hl 3 rfl) ?_
      refine hv_call (hv_runV (As := [.int (nI i), .int y]) (rest := []) (c_Model_isLabeled C y (by omega) hM hls hl4) (hv_cw C hZ kc_Model_isLabeled kn_Model ⟨rfl, rfl, Nat.le_of_ble_eq_true rfl, Nat.le_of_ble_eq_true rfl⟩) hv_blind (hv_pre hZ hS hP) hx hml hb hown (hts _ k_Model_126) (hts _ ki_Model_isLabeled) (hts _ ksel_Model_Model_isLabeled) hy_Model_isLabeled (hts _ kc_Model_isLabeled) (va_recv hK (hv_one hP h1) (ci := 7) (q0 := 0) rfl rfl) rfl hl.1 rfl (lv_room (Nat.le_of_ble_eq_true rfl)) d_Model_label_28 ⟨Nat.le_of_ble_eq_true rfl, Nat.le_of_ble_eq_true rfl⟩) hZ hS (fun v9 w6 H locs q7 hP hS => ?_) (fun x9 w6 H locs q7 hP hS => q7.elim)
      obtain ⟨hv9, hw9⟩ := q7
      subst hv9
      rw [hw9] at hP
      show W _ _ _ _ _ _ _ _ _ _ _ _ _ _ _ (F0 m 31 ls [.int (if y ∈ t.lab then 1 else 0)])
      refine lv_iload_n hx hb d_Model_label_31 rfl (lv_at hl 4 rfl) ?_
      refine lv_icmp_eq (tgt := 39) hx hb d_Model_label_32 (by decide) (fun c32 => ?_) (fun c32 => ?_)
      · have hs9 : y ∈ t.lab ↔ ¬ o = 0 := (g_lab_iff ho).mp c32
        refine lv_iconst (v := 0) hx hb d_Model_label_39 (by decide) ?_
        refine lv_istore (lv' := [(5, .int 0), (4, .int (nI i)), (0, .ref (K 0)), (1, .int n), (2, .int y), (3, .int o)]) hx hb d_Model_label_40 hl (by decide) rfl (fun ls hl => ?_)
        refine lv_aload_n hx hb d_Model_label_42 rfl (lv_at hl 2 rfl) ?_
        refine lv_iload hx hb d_Model_label_43 (lv_at hl 1 rfl) ?_
        refine gk_if_ge (x := i) (tgt := 52) hx hb d_Model_label_45 (by decide) (by omega) ?_
        refine lv_iconst (v := 0) hx hb d_Model_label_52 (by decide) ?_
        refine lv_iconst (v := 0) hx hb d_Model_label_53 (by decide) ?_
        refine lv_iconst (v := 0) hx hb d_Model_label_54 (by decide) ?_
        refine lv_iload hx hb d_Model_label_55 (lv_at hl 0 rfl) ?_
        refine lv_if_eq (tgt := 79) hx hb d_Model_label_57 (by decide) (fun c57 => ?_) (fun c57 => ?_)
        · refine lv_iconst (v := 0) hx hb d_Model_label_79 (by decide) ?_
          refine lv_iload hx hb d_Model_label_80 (lv_at hl 0 rfl) ?_
          refine hv_call (hv_runV (As := [.int 0, .int 0, .int 0, .int 0, .int 0]) (rest := []) (c_Model_fails C 0 0 0 0 0 hM (by show σ.ec + σ.sc ≤ 249; omega)) (hv_cw C hZ kc_Model_fails kn_Model ⟨rfl, rfl, Nat.le_of_ble_eq_true rfl, Nat.le_of_ble_eq_true rfl⟩) hv_blind (hv_pre hZ hS hP) hx hml hb hown (hts _ k_Model_116) (hts _ ki_Model_fails) (hts _ ksel_Model_Model_fails) hy_Model_fails (hts _ kc_Model_fails) (va_recv hK (hv_one hP h1) (ci := 7) (q0 := 0) rfl rfl) rfl hl.1 rfl (lv_room (Nat.le_of_ble_eq_true rfl)) d_Model_label_82 ⟨Nat.le_of_ble_eq_true rfl, Nat.le_of_ble_eq_true rfl⟩) hZ hS (fun v9 w8 H locs q9 hP hS => ?_) (fun x9 w8 H locs q9 hP hS => q9.elim)
          rcases q9 with ⟨ho9, hv9, hM⟩ | ⟨ho9, he9, hv9, hM⟩ | ⟨ho9, he9, hv9, hM⟩
          · exact absurd c4 ho9
          · subst hv9
            show W _ _ _ _ _ _ _ _ _ _ _ _ _ _ _ (F0 m 85 ls [.int 0])
            refine lv_if_ne (tgt := 93) hx hb d_Model_label_85 (by decide) (fun c85 => ?_) (fun c85 => ?_)
            · exact absurd c85 (by decide)
            · refine lv_iload hx hb d_Model_label_88 (lv_at hl 0 rfl) ?_
              refine lv_if_ne (tgt := 95) hx hb d_Model_label_90 (by decide) (fun c90 => ?_) (fun c90 => ?_)
              · exact absurd c90 (by decide)
              · refine lv_iconst (v := 0) hx hb d_Model_label_93 (by decide) ?_
                exact hv_zret (v := 0) hQ hx hb hr (by decide) hZ hS hP hlocks d_Model_label_94 (mRet.of (r' := (σ, 0, 0)) (by rw [x_label, cif_pos c4, hf]; dsimp only; rw [cif_pos hs9]) (fun _ => rfl) hM (hRel.thr 0) rfl)
          · exact absurd (show m_fe (mAo t9 k9 p9 σ).earlier (mAo t9 k9 p9 σ).changes 0 0 0 0 0 = 0 by rw [m_fe, if_neg (by decide), if_neg (by decide), if_neg (by decide), if_neg (by decide), if_neg (fun z8 => absurd z8.1 (by decide))]) he9
        · exact absurd c57 (by decide)
      · have hd9 : ¬ (y ∈ t.lab ↔ ¬ o = 0) := fun z => c32 ((g_lab_iff ho).mpr z)
        refine lv_iconst (v := 1) hx hb d_Model_label_35 (by decide) ?_
        refine lv_goto (tgt := 40) hx hb d_Model_label_36 (by decide) ?_
        refine lv_istore (lv' := [(5, .int 1), (4, .int (nI i)), (0, .ref (K 0)), (1, .int n), (2, .int y), (3, .int o)]) hx hb d_Model_label_40 hl (by decide) rfl (fun ls hl => ?_)
        refine lv_aload_n hx hb d_Model_label_42 rfl (lv_at hl 2 rfl) ?_
        refine lv_iload hx hb d_Model_label_43 (lv_at hl 1 rfl) ?_
        refine gk_if_ge (x := i) (tgt := 52) hx hb d_Model_label_45 (by decide) (by omega) ?_
        refine lv_iconst (v := 0) hx hb d_Model_label_52 (by decide) ?_
        refine lv_iconst (v := 0) hx hb d_Model_label_53 (by decide) ?_
        refine lv_iconst (v := 0) hx hb d_Model_label_54 (by decide) ?_
        refine lv_iload hx hb d_Model_label_55 (lv_at hl 0 rfl) ?_
        refine lv_if_eq (tgt := 79) hx hb d_Model_label_57 (by decide) (fun c57 => ?_) (fun c57 => ?_)
        · exact absurd c57 (by decide)
        · refine lv_iload_n hx hb d_Model_label_60 rfl (lv_at hl 5 rfl) ?_
          refine lv_if_eq (tgt := 79) hx hb d_Model_label_61 (by decide) (fun c61 => ?_) (fun c61 => ?_)
          · refine lv_iconst (v := 0) hx hb d_Model_label_79 (by decide) ?_
            refine lv_iload hx hb d_Model_label_80 (lv_at hl 0 rfl) ?_
            refine hv_call (hv_runV (As := [.int 0, .int 0, .int 0, .int 0, .int 1]) (rest := []) (c_Model_fails C 0 0 0 0 1 hM (by show σ.ec + σ.sc ≤ 249; omega)) (hv_cw C hZ kc_Model_fails kn_Model ⟨rfl, rfl, Nat.le_of_ble_eq_true rfl, Nat.le_of_ble_eq_true rfl⟩) hv_blind (hv_pre hZ hS hP) hx hml hb hown (hts _ k_Model_116) (hts _ ki_Model_fails) (hts _ ksel_Model_Model_fails) hy_Model_fails (hts _ kc_Model_fails) (va_recv hK (hv_one hP h1) (ci := 7) (q0 := 0) rfl rfl) rfl hl.1 rfl (lv_room (Nat.le_of_ble_eq_true rfl)) d_Model_label_82 ⟨Nat.le_of_ble_eq_true rfl, Nat.le_of_ble_eq_true rfl⟩) hZ hS (fun v9 w10 H locs q11 hP hS => ?_) (fun x9 w10 H locs q11 hP hS => q11.elim)
            rcases q11 with ⟨ho9, hv9, hM⟩ | ⟨ho9, he9, hv9, hM⟩ | ⟨ho9, he9, hv9, hM⟩
            · exact absurd c4 ho9
            · have h249 : ¬ 249 ≤ σ.ec + σ.sc := fun z9 => by rw [m_fe, if_neg (by decide), if_neg (by decide), if_neg (by decide), if_neg (by decide), if_pos ⟨by decide, show σ.ec + σ.sc = 249 by omega⟩] at he9; exact absurd he9 (by decide)
              subst hv9
              show W _ _ _ _ _ _ _ _ _ _ _ _ _ _ _ (F0 m 85 ls [.int 0])
              refine lv_if_ne (tgt := 93) hx hb d_Model_label_85 (by decide) (fun c85 => ?_) (fun c85 => ?_)
              · exact absurd c85 (by decide)
              · refine lv_iload hx hb d_Model_label_88 (lv_at hl 0 rfl) ?_
                refine lv_if_ne (tgt := 95) hx hb d_Model_label_90 (by decide) (fun c90 => ?_) (fun c90 => ?_)
                · refine lv_aload_n hx hb d_Model_label_95 rfl (lv_at hl 2 rfl) ?_
                  have h12 : w10 (K 0) = some (.inr (7, [.int 0, .ref (K 1), .ref (K 2), .ref (K 3), .ref (K 4), .ref (K 5), .ref (K 6), .ref (K 7), .ref (K 8), .ref (K 9), .ref (K 10), .ref (K 11), .ref (K 12), .int (nI (σ.tape.length)), .ref (K 13), .int (σ.err), .int (σ.off), .int (σ.ins), .int (nI (σ.sc)), .int (nI (σ.ec)), .int (nI (σ.en)), .int (σ.tr), .int (nI (σ.lo)), .int (σ.wr), .int (nI (σ.due))])) := hM.1.2 0 (by decide)
                  refine hv_call (hv_runV (As := []) (rest := []) (c_Model_begins C hM (hRel.thr 0) hW c4) (hv_cw C hZ kc_Model_begins kn_Model ⟨rfl, rfl, Nat.le_of_ble_eq_true rfl, Nat.le_of_ble_eq_true rfl⟩) hv_blind (hv_pre hZ hS hP) hx hml hb hown (hts _ k_Model_120) (hts _ ki_Model_begins) (hts _ ksel_Model_Model_begins) hy_Model_begins (hts _ kc_Model_begins) (va_recv hK (hv_one hP h12) (ci := 7) (q0 := 0) rfl rfl) rfl hl.1 rfl (lv_room (Nat.le_of_ble_eq_true rfl)) d_Model_label_96 ⟨Nat.le_of_ble_eq_true rfl, Nat.le_of_ble_eq_true rfl⟩) hZ hS (fun v9 w13 H locs q14 hP hS => ?_) (fun x9 w13 H locs q14 hP hS => q14.elim)
                  obtain ⟨hv9, B2, hM, hRel2⟩ := q14
                  subst hv9
                  have hM : mK ca K w0 (((mAo t9 k9 p9 σ).sThrown 0).sChanges (σ.sc + 1)) B2 w13 := hM
                  have hRel2 : mRel (((mAo t9 k9 p9 σ).sThrown 0).sChanges (σ.sc + 1)) B2 (σ.sSc (σ.sc + 1)) := hRel2
                  show W _ _ _ _ _ _ _ _ _ _ _ _ _ _ _ (F0 m 99 ls [])
                  have hT2 : mT B2 i i (some t) := by have z9 := mG0 hRel2.1.1 hi; rw [show (σ.sSc (σ.sc + 1)).now i = some t from ht] at z9; exact z9
                  have hls2 : mLs B2 i t.lab := hT2.2.2.1 hi64
                  refine lv_iload_n hx hb d_Model_label_99 rfl (lv_at hl 5 rfl) ?_
                  refine lv_if_eq (tgt := 134) hx hb d_Model_label_100 (by decide) (fun c100 => ?_) (fun c100 => ?_)
                  · refine lv_iconst (v := 4) hx hb d_Model_label_134 (by decide) ?_
                    refine lv_iload hx hb d_Model_label_135 (lv_at hl 1 rfl) ?_
                    refine gk_imul (x := 4) (y := i) hx hb d_Model_label_137 ?_
                    refine lv_istore (lv' := [(6, .int (nI (4 * i))), (5, .int 1), (4, .int (nI i)), (0, .ref (K 0)), (1, .int n), (2, .int y), (3, .int o)]) hx hb d_Model_label_138 hl (by decide) rfl (fun ls hl => ?_)
                    refine lv_iconst (v := 4) hx hb d_Model_label_140 (by decide) ?_
                    refine lv_iload hx hb d_Model_label_141 (lv_at hl 2 rfl) ?_
                    refine gk_imul (x := 4) (y := i) hx hb d_Model_label_143 ?_
                    refine lv_istore (lv' := [(7, .int (nI (4 * i))), (6, .int (nI (4 * i))), (5, .int 1), (4, .int (nI i)), (0, .ref (K 0)), (1, .int n), (2, .int y), (3, .int o)]) hx hb d_Model_label_144 hl (by decide) rfl (fun ls hl => ?_)
                    have lp : ∀ (n9lp : Nat) (k : Nat) (g : Nat → Int32) (z : hv_W), t.lab.length - k < n9lp → (k ≤ t.lab.length) → (mK ca K w0 (((mAo t9 k9 p9 σ).sThrown 0).sChanges (σ.sc + 1)) (B2.sLabels g) z) → (∀ j, j < (m_left t.lab y k).length → g (4 * i + j) = (m_left t.lab y k).getD j 0) → (∀ q, k ≤ q → q < 4 → g (4 * i + q) = B2.labels (4 * i + q)) → (∀ q, (q < 4 * i ∨ 4 * i + 4 ≤ q) → g q = B2.labels q) → ∀ (H : Heap) (locs : List Loc) (ls : Array Slot), hv_P D classes s0.heap.size z H → va_S (hv_A s0.heap.size) s.heap H locs → lv_has ls 8 [(0, .ref (K 0)), (1, .int n), (2, .int y), (3, .int o), (4, .int (nI i)), (5, .int 1), (6, .int (nI (4 * i + (m_left t.lab y k).length))), (7, .int (nI (4 * i + k)))] → W p l e rm_Model_label s m ([.ref (K 0), .int n, .int y, .int o] : List Value).toArray below meth c H locs 0 0 Q (F0 m 146 ls []) := by
                      intro n9lp
                      induction n9lp with
                      | zero =>
                        intro k g z hn9lp
                        exact absurd hn9lp (Nat.not_lt_zero _)
                      | succ n9lp ihlp =>
                        intro k g z hn9lp hk hM hj ho1 ho2 H locs ls hP hS hl
                        refine lv_iload hx hb d_Model_label_146 (lv_at hl 7 rfl) ?_
                        refine lv_iconst (v := 4) hx hb d_Model_label_148 (by decide) ?_
                        refine lv_iload hx hb d_Model_label_149 (lv_at hl 4 rfl) ?_
                        refine gk_imul (x := 4) (y := i) hx hb d_Model_label_151 ?_
                        refine lv_aload_n hx hb d_Model_label_152 rfl (lv_at hl 0 rfl) ?_
                        have h15 : z (K 0) = some (.inr (7, [.int 0, .ref (K 1), .ref (K 2), .ref (K 3), .ref (K 4), .ref (K 5), .ref (K 6), .ref (K 7), .ref (K 8), .ref (K 9), .ref (K 10), .ref (K 11), .ref (K 12), .int (nI (σ.tape.length)), .ref (K 13), .int (σ.err), .int (σ.off), .int (σ.ins), .int (nI (σ.sc + 1)), .int (nI (σ.ec)), .int (nI (σ.en)), .int (σ.tr), .int (nI (σ.lo)), .int (σ.wr), .int (nI (σ.due))])) := hM.1.2 0 (by decide)
                        refine va_get (D := D) (ci := 7) (v := .ref (K 5)) (C := R_Model) (T := F_Model) (N := 25) hx hb hts i_Model hown hK (hv_one hP h15) 0 rfl rfl 5 (by decide) (hts _ k_Model_23) (fun _ h9 => h9) rfl d_Model_label_153 ?_
                        refine lv_iload hx hb d_Model_label_156 (lv_at hl 4 rfl) ?_
                        have h16 : z (K 5) = some (.inl (ca 0, 640, .inl B2.labelMany)) := hM.1.2 5 (by decide)
                        refine va_iald hx hb hK (hv_one hP h16) 0 0 rfl rfl (vp_in_nI (n := i) (by omega) (by omega)) d_Model_label_158 ?_
                        rw [nI_clamp (n := i) (by omega)]
                        refine lv_topi (fun v9 e9 => ?_)
                        have e9 : v9 = nI t.lab.length := e9.trans (hls2.1)
                        subst e9
                        show W _ _ _ _ _ _ _ _ _ _ _ _ _ _ _ (F0 m 159 ls [.int (nI t.lab.length), .int (nI (4 * i)), .int (nI (4 * i + k))])
                        refine gk_iadd (x := 4 * i) (y := t.lab.length) hx hb d_Model_label_159 ?_
                        refine gk_icmp_ge (x := 4 * i + k) (y := (4 * i) + t.lab.length) (tgt := 197) hx hb d_Model_label_160 (by decide) (by omega) (by omega) (fun c160 => ?_) (fun c160 => ?_)
                        · have hmem : y ∈ t.lab := Classical.byContradiction fun z => hd9 ⟨fun z1 => absurd z1 z, fun z1 => absurd c61 z1⟩
                          have h1l : 1 ≤ t.lab.length := List.length_pos_of_mem hmem
                          refine lv_aload_n hx hb d_Model_label_197 rfl (lv_at hl 0 rfl) ?_
                          refine va_get (D := D) (ci := 7) (v := .ref (K 5)) (C := R_Model) (T := F_Model) (N := 25) hx hb hts i_Model hown hK (hv_one hP h15) 0 rfl rfl 5 (by decide) (hts _ k_Model_23) (fun _ h9 => h9) rfl d_Model_label_198 ?_
                          refine lv_iload hx hb d_Model_label_201 (lv_at hl 4 rfl) ?_
                          refine lv_dup2_11 hx hb d_Model_label_203 rfl rfl ?_
                          refine va_iald hx hb hK (hv_one hP h16) 0 0 rfl rfl (vp_in_nI (n := i) (by omega) (by omega)) d_Model_label_204 ?_
                          rw [nI_clamp (n := i) (by omega)]
                          refine lv_topi (fun v9 e9 => ?_)
                          have e9 : v9 = nI t.lab.length := e9.trans (hls2.1)
                          subst e9
                          show W _ _ _ _ _ _ _ _ _ _ _ _ _ _ _ (F0 m 205 ls [.int (nI t.lab.length), .int (nI i), .ref (K 5)])
                          refine lv_iconst (v := 1) hx hb d_Model_label_205 (by decide) ?_
                          refine gk_isub (x := t.lab.length) (y := 1) hx hb d_Model_label_206 (by omega) ?_
                          refine hv_iast hx hb hK hP hS 0 h16 rfl (vp_in_nI (n := i) (by omega) (by omega)) d_Model_label_207 (fun H locs hP hS => ?_)
                          rw [nI_clamp (n := i) (by omega)] at hP
                          obtain ⟨w17, ew17⟩ : ∃ z9 : hv_W, z9 = va_up z (K 5) (some (.inl (ca 0, 640, .inl (upd B2.labelMany i ((nI (t.lab.length - 1))))))) := ⟨_, rfl⟩
                          have hP : hv_P D classes s0.heap.size w17 H := by rw [ew17]; exact hP
                          have hM : mK ca K w0 (((mAo t9 k9 p9 σ).sThrown 0).sChanges (σ.sc + 1)) ((B2.sLabels g).sLabelMany (upd B2.labelMany i ((nI (t.lab.length - 1))))) w17 := by rw [ew17]; exact hM.put 5 (by decide) rfl
                          have h18 : w17 (K 5) = some (.inl (ca 0, 640, .inl (upd B2.labelMany i ((nI (t.lab.length - 1)))))) := by rw [ew17]; exact hv_up_s
                          refine lv_iconst (v := 1) hx hb d_Model_label_208 (by decide) ?_
                          exact hv_zret (v := 1) hQ hx hb hr (by decide) hZ hS hP hlocks d_Model_label_209 (mRet.of (r' := ((x_one σ i (some (t.sLab (t.lab.erase y)))), 0, 1)) (by rw [x_label, cif_pos c4, hf]; dsimp only; rw [cif_neg hd9, cif_neg (fun z => z.1 c61), cif_neg h249, cif_pos c61]) (fun _ => rfl) hM (hRel2.set hW.1 hi (fun j hj9 => ⟨⟨rfl, rfl, rfl, rfl, pk_un hj9, rfl⟩, fun q hq => ho2 _ (by omega), fun _ _ => ⟨rfl, rfl, rfl⟩, fun _ _ => rfl⟩) (mT_del hT2 hi64 hw.2.1 (Classical.byContradiction fun z => hd9 ⟨fun z1 => absurd z1 z, fun z1 => absurd c61 z1⟩) (by rw [show t.lab.length = k by omega]; exact hj)) (Or.inr hT2.1)) rfl)
                        · have hko : t.lab.getD k 0 = g (4 * i + k) := ((ho1 k (Nat.le_refl _) (by omega)).trans (hls2.2 k (by omega))).symm
                          have hml := m_left_le (xs := t.lab) (y := y) (k := k) (by omega)
                          refine lv_aload_n hx hb d_Model_label_163 rfl (lv_at hl 0 rfl) ?_
                          refine va_get (D := D) (ci := 7) (v := .ref (K 6)) (C := R_Model) (T := F_Model) (N := 25) hx hb hts i_Model hown hK (hv_one hP h15) 0 rfl rfl 6 (by decide) (hts _ k_Model_26) (fun _ h9 => h9) rfl d_Model_label_164 ?_
                          refine lv_iload hx hb d_Model_label_167 (lv_at hl 7 rfl) ?_
                          have h19 : z (K 6) = some (.inl (ca 0, 2560, .inl g)) := hM.1.2 6 (by decide)
                          refine va_iald hx hb hK (hv_one hP h19) 0 0 rfl rfl (vp_in_nI (n := 4 * i + k) (by omega) (by omega)) d_Model_label_169 ?_
                          rw [nI_clamp (n := 4 * i + k) (by omega)]
                          refine lv_iload_n hx hb d_Model_label_170 rfl (lv_at hl 2 rfl) ?_
                          refine lv_icmp_eq (tgt := 191) hx hb d_Model_label_171 (by decide) (fun c171 => ?_) (fun c171 => ?_)
                          · rw [c171] at hko
                            have hsame : m_left t.lab y (k + 1) = m_left t.lab y k := by rw [m_left_s (by omega), hko, if_pos rfl, List.append_nil]
                            rw [← hsame] at hl
                            refine lv_iinc (v := (nI (4 * i + (k + 1)))) (lv' := [(7, .int ((nI (4 * i + (k + 1))))), (0, .ref (K 0)), (1, .int n), (2, .int y), (3, .int o), (4, .int (nI i)), (5, .int 1), (6, .int (nI (4 * i + (m_left t.lab y (k + 1)).length)))]) hx hb d_Model_label_191 hl (k := 7) rfl (nI_add (4 * i + k) 1) (by decide) rfl (fun ls hl => ?_)
                            refine lv_goto (tgt := 146) hx hb d_Model_label_194 (by decide) ?_
                            exact ihlp (k + 1) g z (by omega) (by omega) hM (fun j hj9 => by rw [m_left_s (by omega), hko, if_pos rfl, List.append_nil] at hj9 ⊢; exact hj j hj9) (fun q hq1 hq2 => ho1 q (by omega) hq2) ho2 _ _ _ hP hS (lv_sub hl [1, 2, 3, 4, 5, 6, 7, 0] rfl)
                          · refine lv_aload_n hx hb d_Model_label_174 rfl (lv_at hl 0 rfl) ?_
                            refine va_get (D := D) (ci := 7) (v := .ref (K 6)) (C := R_Model) (T := F_Model) (N := 25) hx hb hts i_Model hown hK (hv_one hP h15) 0 rfl rfl 6 (by decide) (hts _ k_Model_26) (fun _ h9 => h9) rfl d_Model_label_175 ?_
                            refine lv_iload hx hb d_Model_label_178 (lv_at hl 6 rfl) ?_
                            refine lv_aload_n hx hb d_Model_label_180 rfl (lv_at hl 0 rfl) ?_
                            refine va_get (D := D) (ci := 7) (v := .ref (K 6)) (C := R_Model) (T := F_Model) (N := 25) hx hb hts i_Model hown hK (hv_one hP h15) 0 rfl rfl 6 (by decide) (hts _ k_Model_26) (fun _ h9 => h9) rfl d_Model_label_181 ?_
                            refine lv_iload hx hb d_Model_label_184 (lv_at hl 7 rfl) ?_
                            refine va_iald hx hb hK (hv_one hP h19) 0 0 rfl rfl (vp_in_nI (n := 4 * i + k) (by omega) (by omega)) d_Model_label_186 ?_
                            rw [nI_clamp (n := 4 * i + k) (by omega)]
                            refine hv_iast hx hb hK hP hS 0 h19 rfl (vp_in_nI (n := 4 * i + (m_left t.lab y k).length) (by omega) (by omega)) d_Model_label_187 (fun H locs hP hS => ?_)
                            rw [nI_clamp (n := 4 * i + (m_left t.lab y k).length) (by omega)] at hP
                            obtain ⟨w20, ew20⟩ : ∃ z9 : hv_W, z9 = va_up z (K 6) (some (.inl (ca 0, 2560, .inl (upd g (4 * i + (m_left t.lab y k).length) ((g (4 * i + k))))))) := ⟨_, rfl⟩
                            have hP : hv_P D classes s0.heap.size w20 H := by rw [ew20]; exact hP
                            have hM : mK ca K w0 (((mAo t9 k9 p9 σ).sThrown 0).sChanges (σ.sc + 1)) (B2.sLabels (upd g (4 * i + (m_left t.lab y k).length) ((g (4 * i + k))))) w20 := by rw [ew20]; exact hM.put 6 (by decide) rfl
                            have h21 : w20 (K 6) = some (.inl (ca 0, 2560, .inl (upd g (4 * i + (m_left t.lab y k).length) ((g (4 * i + k)))))) := by rw [ew20]; exact hv_up_s
                            refine lv_iinc (v := (nI (4 * i + (m_left t.lab y (k + 1)).length))) (lv' := [(6, .int ((nI (4 * i + (m_left t.lab y (k + 1)).length)))), (0, .ref (K 0)), (1, .int n), (2, .int y), (3, .int o), (4, .int (nI i)), (5, .int 1), (7, .int (nI (4 * i + k)))]) hx hb d_Model_label_188 hl (k := 6) rfl (by rw [m_left_s (by omega), hko, if_neg c171, List.length_append]; exact nI_add _ 1) (by decide) rfl (fun ls hl => ?_)
                            refine lv_iinc (v := (nI (4 * i + (k + 1)))) (lv' := [(7, .int ((nI (4 * i + (k + 1))))), (6, .int ((nI (4 * i + (m_left t.lab y (k + 1)).length)))), (0, .ref (K 0)), (1, .int n), (2, .int y), (3, .int o), (4, .int (nI i)), (5, .int 1)]) hx hb d_Model_label_191 hl (k := 7) rfl (nI_add (4 * i + k) 1) (by decide) rfl (fun ls hl => ?_)
                            refine lv_goto (tgt := 146) hx hb d_Model_label_194 (by decide) ?_
                            exact ihlp (k + 1) (upd g (4 * i + (m_left t.lab y k).length) ((g (4 * i + k)))) w20 (by omega) (by omega) hM (m_left_step hj hko c171 (by omega)) (fun q hq1 hq2 => (pk_un (by have := m_left_le (xs := t.lab) (y := y) (k := k) (by omega); omega)).trans (ho1 q (by omega) hq2)) (fun q hq1 => (pk_un (by have := m_left_le (xs := t.lab) (y := y) (k := k) (by omega); omega)).trans (ho2 q hq1)) _ _ _ hP hS (lv_sub hl [2, 3, 4, 5, 6, 7, 1, 0] rfl)
                    exact lp _ 0 B2.labels w13 (Nat.lt_succ_self _) (Nat.zero_le _) hM (fun j hj9 => absurd hj9 (Nat.not_lt_zero _)) (fun _ _ _ => rfl) (fun _ _ => rfl) _ _ _ hP hS (lv_sub hl [4, 5, 6, 7, 3, 2, 1, 0] rfl)
                  · exact absurd c61 c100
                · exact absurd c90 (by decide)
            · have h249 : 249 ≤ σ.ec + σ.sc := Classical.byContradiction fun z9 => he9 (by rw [m_fe, if_neg (by decide), if_neg (by decide), if_neg (by decide), if_neg (by decide), if_neg (fun z8 => z9 (by have h8 : σ.ec + σ.sc = 249 := z8.2; omega))])
              rw [show m_fe (mAo t9 k9 p9 σ).earlier (mAo t9 k9 p9 σ).changes 0 0 0 0 1 = 9 by rw [m_fe, if_neg (by decide), if_neg (by decide), if_neg (by decide), if_neg (by decide), if_pos ⟨by decide, show σ.ec + σ.sc = 249 by omega⟩]] at hM
              subst hv9
              show W _ _ _ _ _ _ _ _ _ _ _ _ _ _ _ (F0 m 85 ls [.int 1])
              refine lv_if_ne (tgt := 93) hx hb d_Model_label_85 (by decide) (fun c85 => ?_) (fun c85 => ?_)
              · refine lv_iconst (v := 0) hx hb d_Model_label_93 (by decide) ?_
                exact hv_zret (v := 0) hQ hx hb hr (by decide) hZ hS hP hlocks d_Model_label_94 (mRet.of (r' := ((σ.sErr 9), 1, 0)) (by rw [x_label, cif_pos c4, hf]; dsimp only; rw [cif_neg hd9, cif_neg (fun z => z.1 c61), cif_pos h249]) (fun z9 => absurd z9 (show ¬ (1 : Nat) = 0 by decide)) hM ((hRel.err 9).thr 1) rfl)
              · exact absurd c85 (by decide)
          · refine lv_aload_n hx hb d_Model_label_64 rfl (lv_at hl 2 rfl) ?_
            refine va_get (D := D) (ci := 7) (v := .ref (K 5)) (C := R_Model) (T := F_Model) (N := 25) hx hb hts i_Model hown hK (hv_one hP h1) 0 rfl rfl 5 (by decide) (hts _ k_Model_23) (fun _ h9 => h9) rfl d_Model_label_65 ?_
            refine lv_iload hx hb d_Model_label_68 (lv_at hl 1 rfl) ?_
            have h22 : w (K 5) = some (.inl (ca 0, 640, .inl B.labelMany)) := hM.1.2 5 (by decide)
            refine va_iald hx hb hK (hv_one hP h22) 0 0 rfl rfl (vp_in_nI (n := i) (by omega) (by omega)) d_Model_label_70 ?_
            rw [nI_clamp (n := i) (by omega)]
            refine lv_topi (fun v9 e9 => ?_)
            have e9 : v9 = nI t.lab.length := e9.trans (hls.1)
            subst e9
            show W _ _ _ _ _ _ _ _ _ _ _ _ _ _ _ (F0 m 71 ls [.int (nI t.lab.length), .int 0, .int 0, .int 0, .ref (K 0)])
            refine lv_iconst (v := 4) hx hb d_Model_label_71 (by decide) ?_
            refine gk_icmp_ne (x := t.lab.length) (y := 4) (tgt := 79) hx hb d_Model_label_72 (by decide) (by omega) (by omega) (fun c72 => ?_) (fun c72 => ?_)
            · refine lv_iconst (v := 0) hx hb d_Model_label_79 (by decide) ?_
              refine lv_iload hx hb d_Model_label_80 (lv_at hl 0 rfl) ?_
              refine hv_call (hv_runV (As := [.int 0, .int 0, .int 0, .int 0, .int 1]) (rest := []) (c_Model_fails C 0 0 0 0 1 hM (by show σ.ec + σ.sc ≤ 249; omega)) (hv_cw C hZ kc_Model_fails kn_Model ⟨rfl, rfl, Nat.le_of_ble_eq_true rfl, Nat.le_of_ble_eq_true rfl⟩) hv_blind (hv_pre hZ hS hP) hx hml hb hown (hts _ k_Model_116) (hts _ ki_Model_fails) (hts _ ksel_Model_Model_fails) hy_Model_fails (hts _ kc_Model_fails) (va_recv hK (hv_one hP h1) (ci := 7) (q0 := 0) rfl rfl) rfl hl.1 rfl (lv_room (Nat.le_of_ble_eq_true rfl)) d_Model_label_82 ⟨Nat.le_of_ble_eq_true rfl, Nat.le_of_ble_eq_true rfl⟩) hZ hS (fun v9 w23 H locs q24 hP hS => ?_) (fun x9 w23 H locs q24 hP hS => q24.elim)
              rcases q24 with ⟨ho9, hv9, hM⟩ | ⟨ho9, he9, hv9, hM⟩ | ⟨ho9, he9, hv9, hM⟩
              · exact absurd c4 ho9
              · have h249 : ¬ 249 ≤ σ.ec + σ.sc := fun z9 => by rw [m_fe, if_neg (by decide), if_neg (by decide), if_neg (by decide), if_neg (by decide), if_pos ⟨by decide, show σ.ec + σ.sc = 249 by omega⟩] at he9; exact absurd he9 (by decide)
                subst hv9
                show W _ _ _ _ _ _ _ _ _ _ _ _ _ _ _ (F0 m 85 ls [.int 0])
                refine lv_if_ne (tgt := 93) hx hb d_Model_label_85 (by decide) (fun c85 => ?_) (fun c85 => ?_)
                · exact absurd c85 (by decide)
                · refine lv_iload hx hb d_Model_label_88 (lv_at hl 0 rfl) ?_
                  refine lv_if_ne (tgt := 95) hx hb d_Model_label_90 (by decide) (fun c90 => ?_) (fun c90 => ?_)
                  · refine lv_aload_n hx hb d_Model_label_95 rfl (lv_at hl 2 rfl) ?_
                    have h25 : w23 (K 0) = some (.inr (7, [.int 0, .ref (K 1), .ref (K 2), .ref (K 3), .ref (K 4), .ref (K 5), .ref (K 6), .ref (K 7), .ref (K 8), .ref (K 9), .ref (K 10), .ref (K 11), .ref (K 12), .int (nI (σ.tape.length)), .ref (K 13), .int (σ.err), .int (σ.off), .int (σ.ins), .int (nI (σ.sc)), .int (nI (σ.ec)), .int (nI (σ.en)), .int (σ.tr), .int (nI (σ.lo)), .int (σ.wr), .int (nI (σ.due))])) := hM.1.2 0 (by decide)
                    refine hv_call (hv_runV (As := []) (rest := []) (c_Model_begins C hM (hRel.thr 0) hW c4) (hv_cw C hZ kc_Model_begins kn_Model ⟨rfl, rfl, Nat.le_of_ble_eq_true rfl, Nat.le_of_ble_eq_true rfl⟩) hv_blind (hv_pre hZ hS hP) hx hml hb hown (hts _ k_Model_120) (hts _ ki_Model_begins) (hts _ ksel_Model_Model_begins) hy_Model_begins (hts _ kc_Model_begins) (va_recv hK (hv_one hP h25) (ci := 7) (q0 := 0) rfl rfl) rfl hl.1 rfl (lv_room (Nat.le_of_ble_eq_true rfl)) d_Model_label_96 ⟨Nat.le_of_ble_eq_true rfl, Nat.le_of_ble_eq_true rfl⟩) hZ hS (fun v9 w26 H locs q27 hP hS => ?_) (fun x9 w26 H locs q27 hP hS => q27.elim)
                    obtain ⟨hv9, B2, hM, hRel2⟩ := q27
                    subst hv9
                    have hM : mK ca K w0 (((mAo t9 k9 p9 σ).sThrown 0).sChanges (σ.sc + 1)) B2 w26 := hM
                    have hRel2 : mRel (((mAo t9 k9 p9 σ).sThrown 0).sChanges (σ.sc + 1)) B2 (σ.sSc (σ.sc + 1)) := hRel2
                    show W _ _ _ _ _ _ _ _ _ _ _ _ _ _ _ (F0 m 99 ls [])
                    have hT2 : mT B2 i i (some t) := by have z9 := mG0 hRel2.1.1 hi; rw [show (σ.sSc (σ.sc + 1)).now i = some t from ht] at z9; exact z9
                    have hls2 : mLs B2 i t.lab := hT2.2.2.1 hi64
                    refine lv_iload_n hx hb d_Model_label_99 rfl (lv_at hl 5 rfl) ?_
                    refine lv_if_eq (tgt := 134) hx hb d_Model_label_100 (by decide) (fun c100 => ?_) (fun c100 => ?_)
                    · exact absurd c100 c61
                    · have hl3 : t.lab.length ≤ 3 := by omega
                      refine lv_aload_n hx hb d_Model_label_103 rfl (lv_at hl 2 rfl) ?_
                      have h28 : w26 (K 0) = some (.inr (7, [.int 0, .ref (K 1), .ref (K 2), .ref (K 3), .ref (K 4), .ref (K 5), .ref (K 6), .ref (K 7), .ref (K 8), .ref (K 9), .ref (K 10), .ref (K 11), .ref (K 12), .int (nI (σ.tape.length)), .ref (K 13), .int (σ.err), .int (σ.off), .int (σ.ins), .int (nI (σ.sc + 1)), .int (nI (σ.ec)), .int (nI (σ.en)), .int (σ.tr), .int (nI (σ.lo)), .int (σ.wr), .int (nI (σ.due))])) := hM.1.2 0 (by decide)
                      refine va_get (D := D) (ci := 7) (v := .ref (K 6)) (C := R_Model) (T := F_Model) (N := 25) hx hb hts i_Model hown hK (hv_one hP h28) 0 rfl rfl 6 (by decide) (hts _ k_Model_26) (fun _ h9 => h9) rfl d_Model_label_104 ?_
                      refine lv_iconst (v := 4) hx hb d_Model_label_107 (by decide) ?_
                      refine lv_iload hx hb d_Model_label_108 (lv_at hl 1 rfl) ?_
                      refine gk_imul (x := 4) (y := i) hx hb d_Model_label_110 ?_
                      refine lv_aload_n hx hb d_Model_label_111 rfl (lv_at hl 2 rfl) ?_
                      refine va_get (D := D) (ci := 7) (v := .ref (K 5)) (C := R_Model) (T := F_Model) (N := 25) hx hb hts i_Model hown hK (hv_one hP h28) 0 rfl rfl 5 (by decide) (hts _ k_Model_23) (fun _ h9 => h9) rfl d_Model_label_112 ?_
                      refine lv_iload hx hb d_Model_label_115 (lv_at hl 1 rfl) ?_
                      have h29 : w26 (K 5) = some (.inl (ca 0, 640, .inl B2.labelMany)) := hM.1.2 5 (by decide)
                      refine va_iald hx hb hK (hv_one hP h29) 0 0 rfl rfl (vp_in_nI (n := i) (by omega) (by omega)) d_Model_label_117 ?_
                      rw [nI_clamp (n := i) (by omega)]
                      refine lv_topi (fun v9 e9 => ?_)
                      have e9 : v9 = nI t.lab.length := e9.trans (hls2.1)
                      subst e9
                      show W _ _ _ _ _ _ _ _ _ _ _ _ _ _ _ (F0 m 118 ls [.int (nI t.lab.length), .int (nI (4 * i)), .ref (K 6)])
                      refine gk_iadd (x := 4 * i) (y := t.lab.length) hx hb d_Model_label_118 ?_
                      refine lv_iload_n hx hb d_Model_label_119 rfl (lv_at hl 4 rfl) ?_
                      have h30 : w26 (K 6) = some (.inl (ca 0, 2560, .inl B2.labels)) := hM.1.2 6 (by decide)
                      refine hv_iast hx hb hK hP hS 0 h30 rfl (vp_in_nI (n := (4 * i) + t.lab.length) (by omega) (by omega)) d_Model_label_120 (fun H locs hP hS => ?_)
                      rw [nI_clamp (n := (4 * i) + t.lab.length) (by omega)] at hP
                      obtain ⟨w31, ew31⟩ : ∃ z9 : hv_W, z9 = va_up w26 (K 6) (some (.inl (ca 0, 2560, .inl (upd B2.labels ((4 * i) + t.lab.length) y)))) := ⟨_, rfl⟩
                      have hP : hv_P D classes s0.heap.size w31 H := by rw [ew31]; exact hP
                      have hM : mK ca K w0 (((mAo t9 k9 p9 σ).sThrown 0).sChanges (σ.sc + 1)) (B2.sLabels (upd B2.labels ((4 * i) + t.lab.length) y)) w31 := by rw [ew31]; exact hM.put 6 (by decide) rfl
                      have h32 : w31 (K 6) = some (.inl (ca 0, 2560, .inl (upd B2.labels ((4 * i) + t.lab.length) y))) := by rw [ew31]; exact hv_up_s
                      refine lv_aload_n hx hb d_Model_label_121 rfl (lv_at hl 2 rfl) ?_
                      have h33 : w31 (K 0) = some (.inr (7, [.int 0, .ref (K 1), .ref (K 2), .ref (K 3), .ref (K 4), .ref (K 5), .ref (K 6), .ref (K 7), .ref (K 8), .ref (K 9), .ref (K 10), .ref (K 11), .ref (K 12), .int (nI (σ.tape.length)), .ref (K 13), .int (σ.err), .int (σ.off), .int (σ.ins), .int (nI (σ.sc + 1)), .int (nI (σ.ec)), .int (nI (σ.en)), .int (σ.tr), .int (nI (σ.lo)), .int (σ.wr), .int (nI (σ.due))])) := hM.1.2 0 (by decide)
                      refine va_get (D := D) (ci := 7) (v := .ref (K 5)) (C := R_Model) (T := F_Model) (N := 25) hx hb hts i_Model hown hK (hv_one hP h33) 0 rfl rfl 5 (by decide) (hts _ k_Model_23) (fun _ h9 => h9) rfl d_Model_label_122 ?_
                      refine lv_iload hx hb d_Model_label_125 (lv_at hl 1 rfl) ?_
                      refine lv_dup2_11 hx hb d_Model_label_127 rfl rfl ?_
                      have h34 : w31 (K 5) = some (.inl (ca 0, 640, .inl B2.labelMany)) := hM.1.2 5 (by decide)
                      refine va_iald hx hb hK (hv_one hP h34) 0 0 rfl rfl (vp_in_nI (n := i) (by omega) (by omega)) d_Model_label_128 ?_
                      rw [nI_clamp (n := i) (by omega)]
                      refine lv_topi (fun v9 e9 => ?_)
                      have e9 : v9 = nI t.lab.length := e9.trans (hls2.1)
                      subst e9
                      show W _ _ _ _ _ _ _ _ _ _ _ _ _ _ _ (F0 m 129 ls [.int (nI t.lab.length), .int (nI i), .ref (K 5)])
                      refine lv_iconst (v := 1) hx hb d_Model_label_129 (by decide) ?_
                      refine gk_iadd (x := t.lab.length) (y := 1) hx hb d_Model_label_130 ?_
                      refine hv_iast hx hb hK hP hS 0 h34 rfl (vp_in_nI (n := i) (by omega) (by omega)) d_Model_label_131 (fun H locs hP hS => ?_)
                      rw [nI_clamp (n := i) (by omega)] at hP
                      obtain ⟨w35, ew35⟩ : ∃ z9 : hv_W, z9 = va_up w31 (K 5) (some (.inl (ca 0, 640, .inl (upd B2.labelMany i ((nI (t.lab.length + 1))))))) := ⟨_, rfl⟩
                      have hP : hv_P D classes s0.heap.size w35 H := by rw [ew35]; exact hP
                      have hM : mK ca K w0 (((mAo t9 k9 p9 σ).sThrown 0).sChanges (σ.sc + 1)) ((B2.sLabels (upd B2.labels ((4 * i) + t.lab.length) y)).sLabelMany (upd B2.labelMany i ((nI (t.lab.length + 1))))) w35 := by rw [ew35]; exact hM.put 5 (by decide) rfl
                      have h36 : w35 (K 5) = some (.inl (ca 0, 640, .inl (upd B2.labelMany i ((nI (t.lab.length + 1)))))) := by rw [ew35]; exact hv_up_s
                      refine lv_iconst (v := 1) hx hb d_Model_label_132 (by decide) ?_
                      exact hv_zret (v := 1) hQ hx hb hr (by decide) hZ hS hP hlocks d_Model_label_133 (mRet.of (r' := ((x_one σ i (some (t.sLab (t.lab ++ [y])))), 0, 1)) (by rw [x_label, cif_pos c4, hf]; dsimp only; rw [cif_neg hd9, cif_neg (fun z => absurd z.2 (by omega)), cif_neg h249, cif_neg c61]) (fun _ => rfl) hM (hRel2.set hW.1 hi (fun j hj => mEq_add hj hl3) (mT_add hT2 hi64 hl3) (Or.inr hT2.1)) rfl)
                  · exact absurd c90 (by decide)
              · have h249 : 249 ≤ σ.ec + σ.sc := Classical.byContradiction fun z9 => he9 (by rw [m_fe, if_neg (by decide), if_neg (by decide), if_neg (by decide), if_neg (by decide), if_neg (fun z8 => z9 (by have h8 : σ.ec + σ.sc = 249 := z8.2; omega))])
                rw [show m_fe (mAo t9 k9 p9 σ).earlier (mAo t9 k9 p9 σ).changes 0 0 0 0 1 = 9 by rw [m_fe, if_neg (by decide), if_neg (by decide), if_neg (by decide), if_neg (by decide), if_pos ⟨by decide, show σ.ec + σ.sc = 249 by omega⟩]] at hM
                subst hv9
                show W _ _ _ _ _ _ _ _ _ _ _ _ _ _ _ (F0 m 85 ls [.int 1])
                refine lv_if_ne (tgt := 93) hx hb d_Model_label_85 (by decide) (fun c85 => ?_) (fun c85 => ?_)
                · refine lv_iconst (v := 0) hx hb d_Model_label_93 (by decide) ?_
                  exact hv_zret (v := 0) hQ hx hb hr (by decide) hZ hS hP hlocks d_Model_label_94 (mRet.of (r' := ((σ.sErr 9), 1, 0)) (by rw [x_label, cif_pos c4, hf]; dsimp only; rw [cif_neg hd9, cif_neg (fun z => absurd z.2 (by omega)), cif_pos h249]) (fun z9 => absurd z9 (show ¬ (1 : Nat) = 0 by decide)) hM ((hRel.err 9).thr 1) rfl)
                · exact absurd c85 (by decide)
            · refine lv_iconst (v := 1) hx hb d_Model_label_75 (by decide) ?_
              refine lv_goto (tgt := 80) hx hb d_Model_label_76 (by decide) ?_
              refine lv_iload hx hb d_Model_label_80 (lv_at hl 0 rfl) ?_
              refine hv_call (hv_runV (As := [.int 0, .int 0, .int 0, .int 1, .int 1]) (rest := []) (c_Model_fails C 0 0 0 1 1 hM (by show σ.ec + σ.sc ≤ 249; omega)) (hv_cw C hZ kc_Model_fails kn_Model ⟨rfl, rfl, Nat.le_of_ble_eq_true rfl, Nat.le_of_ble_eq_true rfl⟩) hv_blind (hv_pre hZ hS hP) hx hml hb hown (hts _ k_Model_116) (hts _ ki_Model_fails) (hts _ ksel_Model_Model_fails) hy_Model_fails (hts _ kc_Model_fails) (va_recv hK (hv_one hP h1) (ci := 7) (q0 := 0) rfl rfl) rfl hl.1 rfl (lv_room (Nat.le_of_ble_eq_true rfl)) d_Model_label_82 ⟨Nat.le_of_ble_eq_true rfl, Nat.le_of_ble_eq_true rfl⟩) hZ hS (fun v9 w37 H locs q38 hP hS => ?_) (fun x9 w37 H locs q38 hP hS => q38.elim)
              rcases q38 with ⟨ho9, hv9, hM⟩ | ⟨ho9, he9, hv9, hM⟩ | ⟨ho9, he9, hv9, hM⟩
              · exact absurd c4 ho9
              · exact absurd ((show m_fe (mAo t9 k9 p9 σ).earlier (mAo t9 k9 p9 σ).changes 0 0 0 1 1 = 6 by rw [m_fe, if_neg (by decide), if_neg (by decide), if_neg (by decide), if_pos (by decide)]).symm.trans he9) (by decide)
              · rw [show m_fe (mAo t9 k9 p9 σ).earlier (mAo t9 k9 p9 σ).changes 0 0 0 1 1 = 6 by rw [m_fe, if_neg (by decide), if_neg (by decide), if_neg (by decide), if_pos (by decide)]] at hM
                subst hv9
                show W _ _ _ _ _ _ _ _ _ _ _ _ _ _ _ (F0 m 85 ls [.int 1])
                refine lv_if_ne (tgt := 93) hx hb d_Model_label_85 (by decide) (fun c85 => ?_) (fun c85 => ?_)
                · refine lv_iconst (v := 0) hx hb d_Model_label_93 (by decide) ?_
                  exact hv_zret (v := 0) hQ hx hb hr (by decide) hZ hS hP hlocks d_Model_label_94 (mRet.of (r' := ((σ.sErr 6), 1, 0)) (by rw [x_label, cif_pos c4, hf]; dsimp only; rw [cif_neg hd9, cif_pos ⟨c61, by omega⟩]) (fun z9 => absurd z9 (show ¬ (1 : Nat) = 0 by decide)) hM ((hRel.err 6).thr 1) rfl)
                · exact absurd c85 (by decide)
  · refine lv_iconst (v := (-1)) hx hb d_Model_label_7 (by decide) ?_
    refine lv_goto (tgt := 17) hx hb d_Model_label_8 (by decide) ?_
    refine lv_istore (lv' := [(4, .int ((-1))), (0, .ref (K 0)), (1, .int n), (2, .int y), (3, .int o)]) hx hb d_Model_label_17 hl (by decide) rfl (fun ls hl => ?_)
    refine lv_iload hx hb d_Model_label_19 (lv_at hl 0 rfl) ?_
    refine lv_if_lt (tgt := 39) hx hb d_Model_label_21 (by decide) (fun c21 => ?_) (fun c21 => ?_)
    · refine lv_iconst (v := 0) hx hb d_Model_label_39 (by decide) ?_
      refine lv_istore (lv' := [(5, .int 0), (4, .int ((-1))), (0, .ref (K 0)), (1, .int n), (2, .int y), (3, .int o)]) hx hb d_Model_label_40 hl (by decide) rfl (fun ls hl => ?_)
      refine lv_aload_n hx hb d_Model_label_42 rfl (lv_at hl 2 rfl) ?_
      refine lv_iload hx hb d_Model_label_43 (lv_at hl 1 rfl) ?_
      refine lv_if_ge (tgt := 52) hx hb d_Model_label_45 (by decide) (fun c45 => ?_) (fun c45 => ?_)
      · exact absurd c45 (by decide)
      · refine lv_iconst (v := 1) hx hb d_Model_label_48 (by decide) ?_
        refine lv_goto (tgt := 53) hx hb d_Model_label_49 (by decide) ?_
        refine lv_iconst (v := 0) hx hb d_Model_label_53 (by decide) ?_
        refine lv_iconst (v := 0) hx hb d_Model_label_54 (by decide) ?_
        refine lv_iload hx hb d_Model_label_55 (lv_at hl 0 rfl) ?_
        refine lv_if_eq (tgt := 79) hx hb d_Model_label_57 (by decide) (fun c57 => ?_) (fun c57 => ?_)
        · refine lv_iconst (v := 0) hx hb d_Model_label_79 (by decide) ?_
          refine lv_iload hx hb d_Model_label_80 (lv_at hl 0 rfl) ?_
          refine hv_call (hv_runV (As := [.int 1, .int 0, .int 0, .int 0, .int 0]) (rest := []) (c_Model_fails C 1 0 0 0 0 hM (by show σ.ec + σ.sc ≤ 249; omega)) (hv_cw C hZ kc_Model_fails kn_Model ⟨rfl, rfl, Nat.le_of_ble_eq_true rfl, Nat.le_of_ble_eq_true rfl⟩) hv_blind (hv_pre hZ hS hP) hx hml hb hown (hts _ k_Model_116) (hts _ ki_Model_fails) (hts _ ksel_Model_Model_fails) hy_Model_fails (hts _ kc_Model_fails) (va_recv hK (hv_one hP h1) (ci := 7) (q0 := 0) rfl rfl) rfl hl.1 rfl (lv_room (Nat.le_of_ble_eq_true rfl)) d_Model_label_82 ⟨Nat.le_of_ble_eq_true rfl, Nat.le_of_ble_eq_true rfl⟩) hZ hS (fun v9 w39 H locs q40 hP hS => ?_) (fun x9 w39 H locs q40 hP hS => q40.elim)
          rcases q40 with ⟨ho9, hv9, hM⟩ | ⟨ho9, he9, hv9, hM⟩ | ⟨ho9, he9, hv9, hM⟩
          · subst hv9
            show W _ _ _ _ _ _ _ _ _ _ _ _ _ _ _ (F0 m 85 ls [.int 1])
            refine lv_if_ne (tgt := 93) hx hb d_Model_label_85 (by decide) (fun c85 => ?_) (fun c85 => ?_)
            · refine lv_iconst (v := 0) hx hb d_Model_label_93 (by decide) ?_
              exact hv_zret (v := 0) hQ hx hb hr (by decide) hZ hS hP hlocks d_Model_label_94 (mRet.of (r' := (σ, 2, 0)) (by rw [x_label, cif_neg c4]) (fun z9 => absurd z9 (show ¬ (2 : Nat) = 0 by decide)) hM (hRel.thr 2) rfl)
            · exact absurd c85 (by decide)
          · exact absurd ho9 c4
          · exact absurd ho9 c4
        · exact absurd c57 (by decide)
    · exact absurd c21 (by decide)
