abbrev rm_Model_property : Room := { frames := 3, cells := 0, slots := 0, locals := 66 }
set_option maxHeartbeats 4000000 in
set_option maxRecDepth 100000 in
theorem c_Model_property {l : Launch} {s0 : State} {D : va_G} {ca : Nat → ClassId} (C : hv_C l s0 D (hv_tys ca)) {w : hv_W} {K : Nat → Nat} {w0 : hv_W} {A : mA} {B : mB} {σ : gS} (k n y kd : Int32) (x : Int64) (hM : mK ca K w0 A B w) (hRel : mRel A B σ) (hW : gW σ)  :
    hv_Met l y_Model_property [.code y_Model_property b_Model_property 15 (some .boolean)] rm_Model_property (hv_Pc s0 D w [.ref (K 0), .int k, .int n, .int y, .int kd, .long x]) (hv_Q s0 D (fun v w' => mRet ca K w0 (x_property σ k n y kd x) v w') (fun _ _ => False)) 0 0 (hv_A s0.heap.size) := by
  refine hv_enter C _ (by decide) (Nat.le_of_ble_eq_true rfl) ?_
  intro p e s m below meth c ls Q hQ hx hb hr hml hown hts hK hZ hlocks hname hout htr hP hl
  have hown : s.vm.findClass R_Model = some m.cls := hown
  have hS : va_S (hv_A s0.heap.size) s.heap s.heap [] := va_S.rf
  have hl : lv_has ls 15 [(0, .ref (K 0)), (1, .int k), (2, .int n), (3, .int y), (4, .int kd), (5, .long x)] := hl
  obtain ⟨t9, k9, p9, hA9⟩ := mAo_of hRel
  subst hA9
  have hb9 := hW.hb
  have htp9 := hW.tape
  have hdu9 : σ.due ≤ 2000 := hW.2.2.1.2.2.2
  have hen9 : σ.en ≤ 250 := hW.2.2.1.2.1
  have hlo9 : σ.lo ≤ 250 := hW.2.2.1.2.2.1
  refine lv_aload_n hx hb d_Model_property_0 rfl (lv_at hl 0 rfl) ?_
  have h1 : w (K 0) = some (.inr (7, [.int t9, .ref (K 1), .ref (K 2), .ref (K 3), .ref (K 4), .ref (K 5), .ref (K 6), .ref (K 7), .ref (K 8), .ref (K 9), .ref (K 10), .ref (K 11), .ref (K 12), .int (nI (σ.tape.length)), .ref (K 13), .int (σ.err), .int (σ.off), .int (σ.ins), .int (nI (σ.sc)), .int (nI (σ.ec)), .int (nI (σ.en)), .int (σ.tr), .int (nI (σ.lo)), .int (σ.wr), .int (nI (σ.due))])) := hM.1.2 0 (by decide)
  refine va_get (D := D) (ci := 7) (v := .int (σ.off)) (C := R_Model) (T := F_Model) (N := 25) hx hb hts i_Model hown hK (hv_one hP h1) 0 rfl rfl 16 (by decide) (hts _ k_Model_62) (fun _ h9 => h9) rfl d_Model_property_1 ?_
  refine lv_if_eq (tgt := 11) hx hb d_Model_property_4 (by decide) (fun c4 => ?_) (fun c4 => ?_)
  · refine lv_aload_n hx hb d_Model_property_11 rfl (lv_at hl 0 rfl) ?_
    refine lv_iload_n hx hb d_Model_property_12 rfl (lv_at hl 1 rfl) ?_
    refine lv_iload_n hx hb d_Model_property_13 rfl (lv_at hl 2 rfl) ?_
    refine hv_call (hv_runV (As := [.int k, .int n]) (rest := []) (c_Model_find C k n hM) (hv_cw C hZ kc_Model_find kn_Model ⟨rfl, rfl, Nat.le_of_ble_eq_true rfl, Nat.le_of_ble_eq_true rfl⟩) hv_blind (hv_pre hZ hS hP) hx hml hb hown (hts _ k_Model_123) (hts _ ki_Model_find) (hts _ ksel_Model_Model_find) hy_Model_find (hts _ kc_Model_find) (va_recv hK (hv_one hP h1) (ci := 7) (q0 := 0) rfl rfl) rfl hl.1 rfl (lv_room (Nat.le_of_ble_eq_true rfl)) d_Model_property_14 ⟨Nat.le_of_ble_eq_true rfl, Nat.le_of_ble_eq_true rfl⟩) hZ hS (fun v9 w2 H locs q3 hP hS => ?_) (fun x9 w2 H locs q3 hP hS => q3.elim)
    obtain ⟨hv9, hw9⟩ := q3
    subst hv9
    rw [hw9] at hP
    show W _ _ _ _ _ _ _ _ _ _ _ _ _ _ _ (F0 m 17 ls [.int (m_find B k n)])
    rw [m_find_eq hRel.1.1]
    cases hf : x_find σ.now k n with
    | none =>
      rw [m_find2_n hf]
      show W _ _ _ _ _ _ _ _ _ _ _ _ _ _ _ (F0 m 17 ls [.int ((-1))])
      refine lv_istore (lv' := [(7, .int ((-1))), (0, .ref (K 0)), (1, .int k), (2, .int n), (3, .int y), (4, .int kd), (5, .long x)]) hx hb d_Model_property_17 hl (by decide) rfl (fun ls hl => ?_)
      have jA : (x_okv kd x) → ∀ (H : Heap) (locs : List Loc) (ls : Array Slot), hv_P D classes s0.heap.size w H → va_S (hv_A s0.heap.size) s.heap H locs → lv_has ls 15 [(7, .int ((-1))), (0, .ref (K 0)), (1, .int k), (2, .int n), (3, .int y), (4, .int kd), (5, .long x)] → W p l e rm_Model_property s m ([.ref (K 0), .int k, .int n, .int y, .int kd, .long x] : List Value).toArray below meth c H locs 0 0 Q (F0 m 55 ls [.int 0]) := by
        intro hok H locs ls hP hS hl
        refine lv_istore (lv' := [(8, .int 0), (7, .int ((-1))), (0, .ref (K 0)), (1, .int k), (2, .int n), (3, .int y), (4, .int kd), (5, .long x)]) hx hb d_Model_property_55 hl (by decide) rfl (fun ls hl => ?_)
        refine lv_iload hx hb d_Model_property_57 (lv_at hl 1 rfl) ?_
        refine lv_if_ge (tgt := 66) hx hb d_Model_property_59 (by decide) (fun c59 => ?_) (fun c59 => ?_)
        · exact absurd c59 (by decide)
        · refine lv_iconst (v := (-1)) hx hb d_Model_property_62 (by decide) ?_
          refine lv_goto (tgt := 73) hx hb d_Model_property_63 (by decide) ?_
          refine lv_istore (lv' := [(9, .int ((-1))), (8, .int 0), (7, .int ((-1))), (0, .ref (K 0)), (1, .int k), (2, .int n), (3, .int y), (4, .int kd), (5, .long x)]) hx hb d_Model_property_73 hl (by decide) rfl (fun ls hl => ?_)
          refine lv_iload hx hb d_Model_property_75 (lv_at hl 7 rfl) ?_
          refine lv_iconst (v := 3) hx hb d_Model_property_77 (by decide) ?_
          refine lv_icmp_ne (tgt := 89) hx hb d_Model_property_78 (by decide) (fun c78 => ?_) (fun c78 => ?_)
          · refine lv_lload hx hb d_Model_property_89 (lv_at hl 8 rfl) ?_
            refine lv_lstore (lv' := [(10, .long x), (9, .int ((-1))), (8, .int 0), (7, .int ((-1))), (0, .ref (K 0)), (1, .int k), (2, .int n), (3, .int y), (4, .int kd), (5, .long x)]) hx hb d_Model_property_91 hl (by decide) rfl (fun ls hl => ?_)
            refine lv_iload hx hb d_Model_property_93 (lv_at hl 3 rfl) ?_
            refine lv_if_lt (tgt := 138) hx hb d_Model_property_95 (by decide) (fun c95 => ?_) (fun c95 => ?_)
            · refine lv_iconst (v := 0) hx hb d_Model_property_138 (by decide) ?_
              refine lv_istore (lv' := [(12, .int 0), (10, .long x), (9, .int ((-1))), (8, .int 0), (7, .int ((-1))), (0, .ref (K 0)), (1, .int k), (2, .int n), (3, .int y), (4, .int kd), (5, .long x)]) hx hb d_Model_property_139 hl (by decide) rfl (fun ls hl => ?_)
              refine lv_aload_n hx hb d_Model_property_141 rfl (lv_at hl 5 rfl) ?_
              refine lv_iload hx hb d_Model_property_142 (lv_at hl 4 rfl) ?_
              refine lv_if_ge (tgt := 151) hx hb d_Model_property_144 (by decide) (fun c144 => ?_) (fun c144 => ?_)
              · exact absurd c144 (by decide)
              · refine lv_iconst (v := 1) hx hb d_Model_property_147 (by decide) ?_
                refine lv_goto (tgt := 152) hx hb d_Model_property_148 (by decide) ?_
                refine lv_iload hx hb d_Model_property_152 (lv_at hl 3 rfl) ?_
                refine lv_iconst (v := 0) hx hb d_Model_property_154 (by decide) ?_
                refine lv_iload hx hb d_Model_property_155 (lv_at hl 0 rfl) ?_
                refine lv_if_eq (tgt := 181) hx hb d_Model_property_157 (by decide) (fun c157 => ?_) (fun c157 => ?_)
                · refine lv_iconst (v := 0) hx hb d_Model_property_181 (by decide) ?_
                  refine lv_iload hx hb d_Model_property_182 (lv_at hl 0 rfl) ?_
                  refine hv_call (hv_runV (As := [.int 1, .int 0, .int 0, .int 0, .int 0]) (rest := []) (c_Model_fails C 1 0 0 0 0 hM (by show σ.ec + σ.sc ≤ 249; omega)) (hv_cw C hZ kc_Model_fails kn_Model ⟨rfl, rfl, Nat.le_of_ble_eq_true rfl, Nat.le_of_ble_eq_true rfl⟩) hv_blind (hv_pre hZ hS hP) hx hml hb hown (hts _ k_Model_116) (hts _ ki_Model_fails) (hts _ ksel_Model_Model_fails) hy_Model_fails (hts _ kc_Model_fails) (va_recv hK (hv_one hP h1) (ci := 7) (q0 := 0) rfl rfl) rfl hl.1 rfl (lv_room (Nat.le_of_ble_eq_true rfl)) d_Model_property_184 ⟨Nat.le_of_ble_eq_true rfl, Nat.le_of_ble_eq_true rfl⟩) hZ hS (fun v9 w4 H locs q5 hP hS => ?_) (fun x9 w4 H locs q5 hP hS => q5.elim)
                  rcases q5 with ⟨ho9, hv9, hM⟩ | ⟨ho9, he9, hv9, hM⟩ | ⟨ho9, he9, hv9, hM⟩
                  · exact absurd c4 ho9
                  · exact absurd ((show m_fe (mAo t9 k9 p9 σ).earlier (mAo t9 k9 p9 σ).changes 1 0 0 0 0 = 8 by rw [m_fe, if_pos (by decide)]).symm.trans he9) (by decide)
                  · rw [show m_fe (mAo t9 k9 p9 σ).earlier (mAo t9 k9 p9 σ).changes 1 0 0 0 0 = 8 by rw [m_fe, if_pos (by decide)]] at hM
                    subst hv9
                    show W _ _ _ _ _ _ _ _ _ _ _ _ _ _ _ (F0 m 187 ls [.int 1])
                    refine lv_istore (lv' := [(13, .int 1), (12, .int 0), (10, .long x), (9, .int ((-1))), (8, .int 0), (7, .int ((-1))), (0, .ref (K 0)), (1, .int k), (2, .int n), (3, .int y), (4, .int kd), (5, .long x)]) hx hb d_Model_property_187 hl (by decide) rfl (fun ls hl => ?_)
                    refine lv_iload hx hb d_Model_property_189 (lv_at hl 0 rfl) ?_
                    refine lv_if_ne (tgt := 275) hx hb d_Model_property_191 (by decide) (fun c191 => ?_) (fun c191 => ?_)
                    · refine lv_aload_n hx hb d_Model_property_275 rfl (lv_at hl 6 rfl) ?_
                      refine lv_iload hx hb d_Model_property_276 (lv_at hl 10 rfl) ?_
                      refine lv_iconst (v := 3) hx hb d_Model_property_278 (by decide) ?_
                      refine lv_icmp_ne (tgt := 291) hx hb d_Model_property_279 (by decide) (fun c279 => ?_) (fun c279 => ?_)
                      · refine lv_aload_n hx hb d_Model_property_291 rfl (lv_at hl 6 rfl) ?_
                        have h6 : w4 (K 0) = some (.inr (7, [.int 1, .ref (K 1), .ref (K 2), .ref (K 3), .ref (K 4), .ref (K 5), .ref (K 6), .ref (K 7), .ref (K 8), .ref (K 9), .ref (K 10), .ref (K 11), .ref (K 12), .int (nI (σ.tape.length)), .ref (K 13), .int 8, .int (σ.off), .int (σ.ins), .int (nI (σ.sc)), .int (nI (σ.ec)), .int (nI (σ.en)), .int (σ.tr), .int (nI (σ.lo)), .int (σ.wr), .int (nI (σ.due))])) := hM.1.2 0 (by decide)
                        refine va_get (D := D) (ci := 7) (v := .int (nI (σ.tape.length))) (C := R_Model) (T := F_Model) (N := 25) hx hb hts i_Model hown hK (hv_one hP h6) 0 rfl rfl 13 (by decide) (hts _ k_Model_103) (fun _ h9 => h9) rfl d_Model_property_292 ?_
                        refine hv_put (D := D) (ci := 7) (v := .int (nI (σ.tape.length))) (ty := .int) (C := R_Model) (T := F_Model) (N := 25) hx hb hts i_Model t_Model t_Model_ok n_Model hown hK hP hS h6 rfl 13 (by decide) (hts _ k_Model_103) (fun _ h9 => h9) rfl (by decide +kernel) rfl rfl (Nat.le_of_ble_eq_true rfl) d_Model_property_295 (fun H locs hP hS => ?_)
                        obtain ⟨w7, ew7⟩ : ∃ z9 : hv_W, z9 = va_up w4 (K 0) (some (.inr (7, [.int 1, .ref (K 1), .ref (K 2), .ref (K 3), .ref (K 4), .ref (K 5), .ref (K 6), .ref (K 7), .ref (K 8), .ref (K 9), .ref (K 10), .ref (K 11), .ref (K 12), .int (nI (σ.tape.length)), .ref (K 13), .int 8, .int (σ.off), .int (σ.ins), .int (nI (σ.sc)), .int (nI (σ.ec)), .int (nI (σ.en)), .int (σ.tr), .int (nI (σ.lo)), .int (σ.wr), .int (nI (σ.due))]))) := ⟨_, rfl⟩
                        have hP : hv_P D classes s0.heap.size w7 H := by rw [ew7]; exact hP
                        have hM : mK ca K w0 (((mAo t9 k9 p9 σ).sThrown 1).sError 8) B w7 := by rw [ew7]; exact hM.put 0 (by decide) rfl
                        have h8 : w7 (K 0) = some (.inr (7, [.int 1, .ref (K 1), .ref (K 2), .ref (K 3), .ref (K 4), .ref (K 5), .ref (K 6), .ref (K 7), .ref (K 8), .ref (K 9), .ref (K 10), .ref (K 11), .ref (K 12), .int (nI (σ.tape.length)), .ref (K 13), .int 8, .int (σ.off), .int (σ.ins), .int (nI (σ.sc)), .int (nI (σ.ec)), .int (nI (σ.en)), .int (σ.tr), .int (nI (σ.lo)), .int (σ.wr), .int (nI (σ.due))])) := by rw [ew7]; exact hv_up_s
                        refine lv_iload hx hb d_Model_property_298 (lv_at hl 0 rfl) ?_
                        refine lv_if_ne (tgt := 312) hx hb d_Model_property_300 (by decide) (fun c300 => ?_) (fun c300 => ?_)
                        · refine lv_iconst (v := 0) hx hb d_Model_property_312 (by decide) ?_
                          exact hv_zret (v := 0) hQ hx hb hr (by decide) hZ hS hP hlocks d_Model_property_313 (mRet.of (r' := ((σ.sErr 8), 1, 0)) (by rw [x_property, cif_pos c4, hf]) (fun z9 => absurd z9 (show ¬ (1 : Nat) = 0 by decide)) hM (((hRel.err 8).thr 1).tp rfl) rfl)
                        · exact absurd c300 (by decide)
                      · exact absurd c279 c78
                    · exact absurd c191 (by decide)
                · exact absurd c157 (by decide)
            · exact absurd c95 (by decide)
          · refine lv_aload_n hx hb d_Model_property_81 rfl (lv_at hl 3 rfl) ?_
            refine va_get (D := D) (ci := 7) (v := .int (nI (σ.tape.length))) (C := R_Model) (T := F_Model) (N := 25) hx hb hts i_Model hown hK (hv_one hP h1) 0 rfl rfl 13 (by decide) (hts _ k_Model_103) (fun _ h9 => h9) rfl d_Model_property_82 ?_
            refine lv_i2l (v := (nI (σ.tape.length)).toInt64) hx hb d_Model_property_85 rfl ?_
            refine lv_goto (tgt := 91) hx hb d_Model_property_86 (by decide) ?_
            refine lv_lstore (lv' := [(10, .long ((nI (σ.tape.length)).toInt64)), (9, .int ((-1))), (8, .int 0), (7, .int ((-1))), (0, .ref (K 0)), (1, .int k), (2, .int n), (3, .int y), (4, .int kd), (5, .long x)]) hx hb d_Model_property_91 hl (by decide) rfl (fun ls hl => ?_)
            refine lv_iload hx hb d_Model_property_93 (lv_at hl 3 rfl) ?_
            refine lv_if_lt (tgt := 138) hx hb d_Model_property_95 (by decide) (fun c95 => ?_) (fun c95 => ?_)
            · refine lv_iconst (v := 0) hx hb d_Model_property_138 (by decide) ?_
              refine lv_istore (lv' := [(12, .int 0), (10, .long ((nI (σ.tape.length)).toInt64)), (9, .int ((-1))), (8, .int 0), (7, .int ((-1))), (0, .ref (K 0)), (1, .int k), (2, .int n), (3, .int y), (4, .int kd), (5, .long x)]) hx hb d_Model_property_139 hl (by decide) rfl (fun ls hl => ?_)
              refine lv_aload_n hx hb d_Model_property_141 rfl (lv_at hl 5 rfl) ?_
              refine lv_iload hx hb d_Model_property_142 (lv_at hl 4 rfl) ?_
              refine lv_if_ge (tgt := 151) hx hb d_Model_property_144 (by decide) (fun c144 => ?_) (fun c144 => ?_)
              · exact absurd c144 (by decide)
              · refine lv_iconst (v := 1) hx hb d_Model_property_147 (by decide) ?_
                refine lv_goto (tgt := 152) hx hb d_Model_property_148 (by decide) ?_
                refine lv_iload hx hb d_Model_property_152 (lv_at hl 3 rfl) ?_
                refine lv_iconst (v := 0) hx hb d_Model_property_154 (by decide) ?_
                refine lv_iload hx hb d_Model_property_155 (lv_at hl 0 rfl) ?_
                refine lv_if_eq (tgt := 181) hx hb d_Model_property_157 (by decide) (fun c157 => ?_) (fun c157 => ?_)
                · refine lv_iconst (v := 0) hx hb d_Model_property_181 (by decide) ?_
                  refine lv_iload hx hb d_Model_property_182 (lv_at hl 0 rfl) ?_
                  refine hv_call (hv_runV (As := [.int 1, .int 0, .int 0, .int 0, .int 0]) (rest := []) (c_Model_fails C 1 0 0 0 0 hM (by show σ.ec + σ.sc ≤ 249; omega)) (hv_cw C hZ kc_Model_fails kn_Model ⟨rfl, rfl, Nat.le_of_ble_eq_true rfl, Nat.le_of_ble_eq_true rfl⟩) hv_blind (hv_pre hZ hS hP) hx hml hb hown (hts _ k_Model_116) (hts _ ki_Model_fails) (hts _ ksel_Model_Model_fails) hy_Model_fails (hts _ kc_Model_fails) (va_recv hK (hv_one hP h1) (ci := 7) (q0 := 0) rfl rfl) rfl hl.1 rfl (lv_room (Nat.le_of_ble_eq_true rfl)) d_Model_property_184 ⟨Nat.le_of_ble_eq_true rfl, Nat.le_of_ble_eq_true rfl⟩) hZ hS (fun v9 w9 H locs q10 hP hS => ?_) (fun x9 w9 H locs q10 hP hS => q10.elim)
                  rcases q10 with ⟨ho9, hv9, hM⟩ | ⟨ho9, he9, hv9, hM⟩ | ⟨ho9, he9, hv9, hM⟩
                  · exact absurd c4 ho9
                  · exact absurd ((show m_fe (mAo t9 k9 p9 σ).earlier (mAo t9 k9 p9 σ).changes 1 0 0 0 0 = 8 by rw [m_fe, if_pos (by decide)]).symm.trans he9) (by decide)
                  · rw [show m_fe (mAo t9 k9 p9 σ).earlier (mAo t9 k9 p9 σ).changes 1 0 0 0 0 = 8 by rw [m_fe, if_pos (by decide)]] at hM
                    subst hv9
                    show W _ _ _ _ _ _ _ _ _ _ _ _ _ _ _ (F0 m 187 ls [.int 1])
                    refine lv_istore (lv' := [(13, .int 1), (12, .int 0), (10, .long ((nI (σ.tape.length)).toInt64)), (9, .int ((-1))), (8, .int 0), (7, .int ((-1))), (0, .ref (K 0)), (1, .int k), (2, .int n), (3, .int y), (4, .int kd), (5, .long x)]) hx hb d_Model_property_187 hl (by decide) rfl (fun ls hl => ?_)
                    refine lv_iload hx hb d_Model_property_189 (lv_at hl 0 rfl) ?_
                    refine lv_if_ne (tgt := 275) hx hb d_Model_property_191 (by decide) (fun c191 => ?_) (fun c191 => ?_)
                    · refine lv_aload_n hx hb d_Model_property_275 rfl (lv_at hl 6 rfl) ?_
                      refine lv_iload hx hb d_Model_property_276 (lv_at hl 10 rfl) ?_
                      refine lv_iconst (v := 3) hx hb d_Model_property_278 (by decide) ?_
                      refine lv_icmp_ne (tgt := 291) hx hb d_Model_property_279 (by decide) (fun c279 => ?_) (fun c279 => ?_)
                      · exact absurd c78 c279
                      · refine lv_iload hx hb d_Model_property_282 (lv_at hl 5 rfl) ?_
                        refine lv_if_lt (tgt := 291) hx hb d_Model_property_284 (by decide) (fun c284 => ?_) (fun c284 => ?_)
                        · refine lv_aload_n hx hb d_Model_property_291 rfl (lv_at hl 6 rfl) ?_
                          have h11 : w9 (K 0) = some (.inr (7, [.int 1, .ref (K 1), .ref (K 2), .ref (K 3), .ref (K 4), .ref (K 5), .ref (K 6), .ref (K 7), .ref (K 8), .ref (K 9), .ref (K 10), .ref (K 11), .ref (K 12), .int (nI (σ.tape.length)), .ref (K 13), .int 8, .int (σ.off), .int (σ.ins), .int (nI (σ.sc)), .int (nI (σ.ec)), .int (nI (σ.en)), .int (σ.tr), .int (nI (σ.lo)), .int (σ.wr), .int (nI (σ.due))])) := hM.1.2 0 (by decide)
                          refine va_get (D := D) (ci := 7) (v := .int (nI (σ.tape.length))) (C := R_Model) (T := F_Model) (N := 25) hx hb hts i_Model hown hK (hv_one hP h11) 0 rfl rfl 13 (by decide) (hts _ k_Model_103) (fun _ h9 => h9) rfl d_Model_property_292 ?_
                          refine hv_put (D := D) (ci := 7) (v := .int (nI (σ.tape.length))) (ty := .int) (C := R_Model) (T := F_Model) (N := 25) hx hb hts i_Model t_Model t_Model_ok n_Model hown hK hP hS h11 rfl 13 (by decide) (hts _ k_Model_103) (fun _ h9 => h9) rfl (by decide +kernel) rfl rfl (Nat.le_of_ble_eq_true rfl) d_Model_property_295 (fun H locs hP hS => ?_)
                          obtain ⟨w12, ew12⟩ : ∃ z9 : hv_W, z9 = va_up w9 (K 0) (some (.inr (7, [.int 1, .ref (K 1), .ref (K 2), .ref (K 3), .ref (K 4), .ref (K 5), .ref (K 6), .ref (K 7), .ref (K 8), .ref (K 9), .ref (K 10), .ref (K 11), .ref (K 12), .int (nI (σ.tape.length)), .ref (K 13), .int 8, .int (σ.off), .int (σ.ins), .int (nI (σ.sc)), .int (nI (σ.ec)), .int (nI (σ.en)), .int (σ.tr), .int (nI (σ.lo)), .int (σ.wr), .int (nI (σ.due))]))) := ⟨_, rfl⟩
                          have hP : hv_P D classes s0.heap.size w12 H := by rw [ew12]; exact hP
                          have hM : mK ca K w0 (((mAo t9 k9 p9 σ).sThrown 1).sError 8) B w12 := by rw [ew12]; exact hM.put 0 (by decide) rfl
                          have h13 : w12 (K 0) = some (.inr (7, [.int 1, .ref (K 1), .ref (K 2), .ref (K 3), .ref (K 4), .ref (K 5), .ref (K 6), .ref (K 7), .ref (K 8), .ref (K 9), .ref (K 10), .ref (K 11), .ref (K 12), .int (nI (σ.tape.length)), .ref (K 13), .int 8, .int (σ.off), .int (σ.ins), .int (nI (σ.sc)), .int (nI (σ.ec)), .int (nI (σ.en)), .int (σ.tr), .int (nI (σ.lo)), .int (σ.wr), .int (nI (σ.due))])) := by rw [ew12]; exact hv_up_s
                          refine lv_iload hx hb d_Model_property_298 (lv_at hl 0 rfl) ?_
                          refine lv_if_ne (tgt := 312) hx hb d_Model_property_300 (by decide) (fun c300 => ?_) (fun c300 => ?_)
                          · refine lv_iconst (v := 0) hx hb d_Model_property_312 (by decide) ?_
                            exact hv_zret (v := 0) hQ hx hb hr (by decide) hZ hS hP hlocks d_Model_property_313 (mRet.of (r' := ((σ.sErr 8), 1, 0)) (by rw [x_property, cif_pos c4, hf]) (fun z9 => absurd z9 (show ¬ (1 : Nat) = 0 by decide)) hM (((hRel.err 8).thr 1).tp rfl) rfl)
                          · exact absurd c300 (by decide)
                        · exact absurd c284 (by decide)
                    · exact absurd c191 (by decide)
                · exact absurd c157 (by decide)
            · exact absurd c95 (by decide)
      have jB : (¬ x_okv kd x) → ∀ (H : Heap) (locs : List Loc) (ls : Array Slot), hv_P D classes s0.heap.size w H → va_S (hv_A s0.heap.size) s.heap H locs → lv_has ls 15 [(7, .int ((-1))), (0, .ref (K 0)), (1, .int k), (2, .int n), (3, .int y), (4, .int kd), (5, .long x)] → W p l e rm_Model_property s m ([.ref (K 0), .int k, .int n, .int y, .int kd, .long x] : List Value).toArray below meth c H locs 0 0 Q (F0 m 55 ls [.int 1]) := by
        intro hok H locs ls hP hS hl
        refine lv_istore (lv' := [(8, .int 1), (7, .int ((-1))), (0, .ref (K 0)), (1, .int k), (2, .int n), (3, .int y), (4, .int kd), (5, .long x)]) hx hb d_Model_property_55 hl (by decide) rfl (fun ls hl => ?_)
        refine lv_iload hx hb d_Model_property_57 (lv_at hl 1 rfl) ?_
        refine lv_if_ge (tgt := 66) hx hb d_Model_property_59 (by decide) (fun c59 => ?_) (fun c59 => ?_)
        · exact absurd c59 (by decide)
        · refine lv_iconst (v := (-1)) hx hb d_Model_property_62 (by decide) ?_
          refine lv_goto (tgt := 73) hx hb d_Model_property_63 (by decide) ?_
          refine lv_istore (lv' := [(9, .int ((-1))), (8, .int 1), (7, .int ((-1))), (0, .ref (K 0)), (1, .int k), (2, .int n), (3, .int y), (4, .int kd), (5, .long x)]) hx hb d_Model_property_73 hl (by decide) rfl (fun ls hl => ?_)
          refine lv_iload hx hb d_Model_property_75 (lv_at hl 7 rfl) ?_
          refine lv_iconst (v := 3) hx hb d_Model_property_77 (by decide) ?_
          refine lv_icmp_ne (tgt := 89) hx hb d_Model_property_78 (by decide) (fun c78 => ?_) (fun c78 => ?_)
          · refine lv_lload hx hb d_Model_property_89 (lv_at hl 8 rfl) ?_
            refine lv_lstore (lv' := [(10, .long x), (9, .int ((-1))), (8, .int 1), (7, .int ((-1))), (0, .ref (K 0)), (1, .int k), (2, .int n), (3, .int y), (4, .int kd), (5, .long x)]) hx hb d_Model_property_91 hl (by decide) rfl (fun ls hl => ?_)
            refine lv_iload hx hb d_Model_property_93 (lv_at hl 3 rfl) ?_
            refine lv_if_lt (tgt := 138) hx hb d_Model_property_95 (by decide) (fun c95 => ?_) (fun c95 => ?_)
            · refine lv_iconst (v := 0) hx hb d_Model_property_138 (by decide) ?_
              refine lv_istore (lv' := [(12, .int 0), (10, .long x), (9, .int ((-1))), (8, .int 1), (7, .int ((-1))), (0, .ref (K 0)), (1, .int k), (2, .int n), (3, .int y), (4, .int kd), (5, .long x)]) hx hb d_Model_property_139 hl (by decide) rfl (fun ls hl => ?_)
              refine lv_aload_n hx hb d_Model_property_141 rfl (lv_at hl 5 rfl) ?_
              refine lv_iload hx hb d_Model_property_142 (lv_at hl 4 rfl) ?_
              refine lv_if_ge (tgt := 151) hx hb d_Model_property_144 (by decide) (fun c144 => ?_) (fun c144 => ?_)
              · exact absurd c144 (by decide)
              · refine lv_iconst (v := 1) hx hb d_Model_property_147 (by decide) ?_
                refine lv_goto (tgt := 152) hx hb d_Model_property_148 (by decide) ?_
                refine lv_iload hx hb d_Model_property_152 (lv_at hl 3 rfl) ?_
                refine lv_iconst (v := 0) hx hb d_Model_property_154 (by decide) ?_
                refine lv_iload hx hb d_Model_property_155 (lv_at hl 0 rfl) ?_
                refine lv_if_eq (tgt := 181) hx hb d_Model_property_157 (by decide) (fun c157 => ?_) (fun c157 => ?_)
                · refine lv_iconst (v := 0) hx hb d_Model_property_181 (by decide) ?_
                  refine lv_iload hx hb d_Model_property_182 (lv_at hl 0 rfl) ?_
                  refine hv_call (hv_runV (As := [.int 1, .int 1, .int 0, .int 0, .int 0]) (rest := []) (c_Model_fails C 1 1 0 0 0 hM (by show σ.ec + σ.sc ≤ 249; omega)) (hv_cw C hZ kc_Model_fails kn_Model ⟨rfl, rfl, Nat.le_of_ble_eq_true rfl, Nat.le_of_ble_eq_true rfl⟩) hv_blind (hv_pre hZ hS hP) hx hml hb hown (hts _ k_Model_116) (hts _ ki_Model_fails) (hts _ ksel_Model_Model_fails) hy_Model_fails (hts _ kc_Model_fails) (va_recv hK (hv_one hP h1) (ci := 7) (q0 := 0) rfl rfl) rfl hl.1 rfl (lv_room (Nat.le_of_ble_eq_true rfl)) d_Model_property_184 ⟨Nat.le_of_ble_eq_true rfl, Nat.le_of_ble_eq_true rfl⟩) hZ hS (fun v9 w14 H locs q15 hP hS => ?_) (fun x9 w14 H locs q15 hP hS => q15.elim)
                  rcases q15 with ⟨ho9, hv9, hM⟩ | ⟨ho9, he9, hv9, hM⟩ | ⟨ho9, he9, hv9, hM⟩
                  · exact absurd c4 ho9
                  · exact absurd ((show m_fe (mAo t9 k9 p9 σ).earlier (mAo t9 k9 p9 σ).changes 1 1 0 0 0 = 8 by rw [m_fe, if_pos (by decide)]).symm.trans he9) (by decide)
                  · rw [show m_fe (mAo t9 k9 p9 σ).earlier (mAo t9 k9 p9 σ).changes 1 1 0 0 0 = 8 by rw [m_fe, if_pos (by decide)]] at hM
                    subst hv9
                    show W _ _ _ _ _ _ _ _ _ _ _ _ _ _ _ (F0 m 187 ls [.int 1])
                    refine lv_istore (lv' := [(13, .int 1), (12, .int 0), (10, .long x), (9, .int ((-1))), (8, .int 1), (7, .int ((-1))), (0, .ref (K 0)), (1, .int k), (2, .int n), (3, .int y), (4, .int kd), (5, .long x)]) hx hb d_Model_property_187 hl (by decide) rfl (fun ls hl => ?_)
                    refine lv_iload hx hb d_Model_property_189 (lv_at hl 0 rfl) ?_
                    refine lv_if_ne (tgt := 275) hx hb d_Model_property_191 (by decide) (fun c191 => ?_) (fun c191 => ?_)
                    · refine lv_aload_n hx hb d_Model_property_275 rfl (lv_at hl 6 rfl) ?_
                      refine lv_iload hx hb d_Model_property_276 (lv_at hl 10 rfl) ?_
                      refine lv_iconst (v := 3) hx hb d_Model_property_278 (by decide) ?_
                      refine lv_icmp_ne (tgt := 291) hx hb d_Model_property_279 (by decide) (fun c279 => ?_) (fun c279 => ?_)
                      · refine lv_aload_n hx hb d_Model_property_291 rfl (lv_at hl 6 rfl) ?_
                        have h16 : w14 (K 0) = some (.inr (7, [.int 1, .ref (K 1), .ref (K 2), .ref (K 3), .ref (K 4), .ref (K 5), .ref (K 6), .ref (K 7), .ref (K 8), .ref (K 9), .ref (K 10), .ref (K 11), .ref (K 12), .int (nI (σ.tape.length)), .ref (K 13), .int 8, .int (σ.off), .int (σ.ins), .int (nI (σ.sc)), .int (nI (σ.ec)), .int (nI (σ.en)), .int (σ.tr), .int (nI (σ.lo)), .int (σ.wr), .int (nI (σ.due))])) := hM.1.2 0 (by decide)
                        refine va_get (D := D) (ci := 7) (v := .int (nI (σ.tape.length))) (C := R_Model) (T := F_Model) (N := 25) hx hb hts i_Model hown hK (hv_one hP h16) 0 rfl rfl 13 (by decide) (hts _ k_Model_103) (fun _ h9 => h9) rfl d_Model_property_292 ?_
                        refine hv_put (D := D) (ci := 7) (v := .int (nI (σ.tape.length))) (ty := .int) (C := R_Model) (T := F_Model) (N := 25) hx hb hts i_Model t_Model t_Model_ok n_Model hown hK hP hS h16 rfl 13 (by decide) (hts _ k_Model_103) (fun _ h9 => h9) rfl (by decide +kernel) rfl rfl (Nat.le_of_ble_eq_true rfl) d_Model_property_295 (fun H locs hP hS => ?_)
                        obtain ⟨w17, ew17⟩ : ∃ z9 : hv_W, z9 = va_up w14 (K 0) (some (.inr (7, [.int 1, .ref (K 1), .ref (K 2), .ref (K 3), .ref (K 4), .ref (K 5), .ref (K 6), .ref (K 7), .ref (K 8), .ref (K 9), .ref (K 10), .ref (K 11), .ref (K 12), .int (nI (σ.tape.length)), .ref (K 13), .int 8, .int (σ.off), .int (σ.ins), .int (nI (σ.sc)), .int (nI (σ.ec)), .int (nI (σ.en)), .int (σ.tr), .int (nI (σ.lo)), .int (σ.wr), .int (nI (σ.due))]))) := ⟨_, rfl⟩
                        have hP : hv_P D classes s0.heap.size w17 H := by rw [ew17]; exact hP
                        have hM : mK ca K w0 (((mAo t9 k9 p9 σ).sThrown 1).sError 8) B w17 := by rw [ew17]; exact hM.put 0 (by decide) rfl
                        have h18 : w17 (K 0) = some (.inr (7, [.int 1, .ref (K 1), .ref (K 2), .ref (K 3), .ref (K 4), .ref (K 5), .ref (K 6), .ref (K 7), .ref (K 8), .ref (K 9), .ref (K 10), .ref (K 11), .ref (K 12), .int (nI (σ.tape.length)), .ref (K 13), .int 8, .int (σ.off), .int (σ.ins), .int (nI (σ.sc)), .int (nI (σ.ec)), .int (nI (σ.en)), .int (σ.tr), .int (nI (σ.lo)), .int (σ.wr), .int (nI (σ.due))])) := by rw [ew17]; exact hv_up_s
                        refine lv_iload hx hb d_Model_property_298 (lv_at hl 0 rfl) ?_
                        refine lv_if_ne (tgt := 312) hx hb d_Model_property_300 (by decide) (fun c300 => ?_) (fun c300 => ?_)
                        · refine lv_iconst (v := 0) hx hb d_Model_property_312 (by decide) ?_
                          exact hv_zret (v := 0) hQ hx hb hr (by decide) hZ hS hP hlocks d_Model_property_313 (mRet.of (r' := ((σ.sErr 8), 1, 0)) (by rw [x_property, cif_pos c4, hf]) (fun z9 => absurd z9 (show ¬ (1 : Nat) = 0 by decide)) hM (((hRel.err 8).thr 1).tp rfl) rfl)
                        · exact absurd c300 (by decide)
                      · exact absurd c279 c78
                    · exact absurd c191 (by decide)
                · exact absurd c157 (by decide)
            · exact absurd c95 (by decide)
          · exact absurd (x_okv3 c78 x) hok
      refine lv_iload hx hb d_Model_property_19 (lv_at hl 5 rfl) ?_
      refine lv_if_lt (tgt := 50) hx hb d_Model_property_21 (by decide) (fun c21 => ?_) (fun c21 => ?_)
      · refine lv_iconst (v := 1) hx hb d_Model_property_50 (by decide) ?_
        refine lv_goto (tgt := 55) hx hb d_Model_property_51 (by decide) ?_
        exact jB (fun z => z.1 c21) _ _ _ hP hS hl
      · refine lv_iload hx hb d_Model_property_24 (lv_at hl 5 rfl) ?_
        refine lv_iconst (v := 3) hx hb d_Model_property_26 (by decide) ?_
        refine lv_icmp_gt (tgt := 50) hx hb d_Model_property_27 (by decide) (fun c27 => ?_) (fun c27 => ?_)
        · refine lv_iconst (v := 1) hx hb d_Model_property_50 (by decide) ?_
          refine lv_goto (tgt := 55) hx hb d_Model_property_51 (by decide) ?_
          exact jB (fun z => z.2.1 c27) _ _ _ hP hS hl
        · refine lv_iload hx hb d_Model_property_30 (lv_at hl 5 rfl) ?_
          refine lv_iconst (v := 2) hx hb d_Model_property_32 (by decide) ?_
          refine lv_icmp_ne (tgt := 54) hx hb d_Model_property_33 (by decide) (fun c33 => ?_) (fun c33 => ?_)
          · refine lv_iconst (v := 0) hx hb d_Model_property_54 (by decide) ?_
            exact jA ⟨c21, c27, fun z => absurd z c33⟩ _ _ _ hP hS hl
          · refine lv_lload hx hb d_Model_property_36 (lv_at hl 6 rfl) ?_
            refine lv_lconst (v := 0) hx hb d_Model_property_38 (by decide) ?_
            refine W.lcmp hx hb d_Model_property_39 ?_
            refine lv_if_eq (tgt := 54) hx hb d_Model_property_40 (by decide) (fun c40 => ?_) (fun c40 => ?_)
            · refine lv_iconst (v := 0) hx hb d_Model_property_54 (by decide) ?_
              exact jA ⟨c21, c27, fun _ => Or.inl (g_lcmp_eq c40)⟩ _ _ _ hP hS hl
            · refine lv_lload hx hb d_Model_property_43 (lv_at hl 6 rfl) ?_
              refine lv_lconst (v := 1) hx hb d_Model_property_45 (by decide) ?_
              refine W.lcmp hx hb d_Model_property_46 ?_
              refine lv_if_eq (tgt := 54) hx hb d_Model_property_47 (by decide) (fun c47 => ?_) (fun c47 => ?_)
              · refine lv_iconst (v := 0) hx hb d_Model_property_54 (by decide) ?_
                exact jA ⟨c21, c27, fun _ => Or.inr (g_lcmp_eq c47)⟩ _ _ _ hP hS hl
              · refine lv_iconst (v := 1) hx hb d_Model_property_50 (by decide) ?_
                refine lv_goto (tgt := 55) hx hb d_Model_property_51 (by decide) ?_
                exact jB (fun z => (z.2.2 c33).elim (fun q => c40 (by rw [q]; exact g_lcmp_refl 0)) (fun q => c47 (by rw [q]; exact g_lcmp_refl 1))) _ _ _ hP hS hl
    | some it =>
      obtain ⟨i, t⟩ := it
      rw [m_find2_s hf]
      have hi : i < 160 := x_find_lt hf
      have ht : σ.now i = some t := (x_find_some hf).1
      have hw := hW.t hi ht
      show W _ _ _ _ _ _ _ _ _ _ _ _ _ _ _ (F0 m 17 ls [.int (nI i)])
      have hat9 := hRel.at hi ht
      have hl68 : t.ps.length ≤ 6 := hw.2.2.1
      refine lv_istore (lv' := [(7, .int (nI i)), (0, .ref (K 0)), (1, .int k), (2, .int n), (3, .int y), (4, .int kd), (5, .long x)]) hx hb d_Model_property_17 hl (by decide) rfl (fun ls hl => ?_)
      have jA : (x_okv kd x) → ∀ (H : Heap) (locs : List Loc) (ls : Array Slot), hv_P D classes s0.heap.size w H → va_S (hv_A s0.heap.size) s.heap H locs → lv_has ls 15 [(7, .int (nI i)), (0, .ref (K 0)), (1, .int k), (2, .int n), (3, .int y), (4, .int kd), (5, .long x)] → W p l e rm_Model_property s m ([.ref (K 0), .int k, .int n, .int y, .int kd, .long x] : List Value).toArray below meth c H locs 0 0 Q (F0 m 55 ls [.int 0]) := by
        intro hok H locs ls hP hS hl
        refine lv_istore (lv' := [(8, .int 0), (7, .int (nI i)), (0, .ref (K 0)), (1, .int k), (2, .int n), (3, .int y), (4, .int kd), (5, .long x)]) hx hb d_Model_property_55 hl (by decide) rfl (fun ls hl => ?_)
        refine lv_iload hx hb d_Model_property_57 (lv_at hl 1 rfl) ?_
        refine gk_if_ge (x := i) (tgt := 66) hx hb d_Model_property_59 (by decide) (by omega) ?_
        refine lv_aload_n hx hb d_Model_property_66 rfl (lv_at hl 2 rfl) ?_
        refine lv_iload hx hb d_Model_property_67 (lv_at hl 1 rfl) ?_
        refine lv_iload_n hx hb d_Model_property_69 rfl (lv_at hl 5 rfl) ?_
        refine hv_call (hv_runV (As := [.int (nI i), .int y]) (rest := []) (c_Model_propertyOf C y (by omega) hM hat9.2.1 hw.2.2.1 hw.2.2.2.1) (hv_cw C hZ kc_Model_propertyOf kn_Model ⟨rfl, rfl, Nat.le_of_ble_eq_true rfl, Nat.le_of_ble_eq_true rfl⟩) hv_blind (hv_pre hZ hS hP) hx hml hb hown (hts _ k_Model_130) (hts _ ki_Model_propertyOf) (hts _ ksel_Model_Model_propertyOf) hy_Model_propertyOf (hts _ kc_Model_propertyOf) (va_recv hK (hv_one hP h1) (ci := 7) (q0 := 0) rfl rfl) rfl hl.1 rfl (lv_room (Nat.le_of_ble_eq_true rfl)) d_Model_property_70 ⟨Nat.le_of_ble_eq_true rfl, Nat.le_of_ble_eq_true rfl⟩) hZ hS (fun v9 w19 H locs q20 hP hS => ?_) (fun x9 w19 H locs q20 hP hS => q20.elim)
        obtain ⟨hv9, hw9⟩ := q20
        subst hv9
        rw [hw9] at hP
        show W _ _ _ _ _ _ _ _ _ _ _ _ _ _ _ (F0 m 73 ls [.int (m_pos i t.ps y)])
        rcases Classical.em (g_pos t.ps y < t.ps.length) with hg | hg
        · obtain ⟨pr, hpe, hp9⟩ := hat9.2.1.2 _ hg
          have hgl : g_look t.ps y = some pr := by have z9 := g_look_pos hg; rw [← List.getElem?_eq_getElem hg, hpe] at z9; exact z9
          have hwp : w_P pr := hw.2.2.2.2 pr (List.mem_of_getElem? hpe)
          have hg6 : g_pos t.ps y < 6 := Nat.lt_of_lt_of_le hg hw.2.2.1
          obtain ⟨gq, hgq⟩ : ∃ z9 : Nat, z9 = g_pos t.ps y := ⟨_, rfl⟩
          rw [← hgq] at hp9 hg6 hg
          rw [show m_pos i t.ps y = nI (6 * i + gq) by rw [m_pos, ← hgq, if_pos hg]]
          show W _ _ _ _ _ _ _ _ _ _ _ _ _ _ _ (F0 m 73 ls [.int (nI (6 * i + gq))])
          refine lv_istore (lv' := [(9, .int (nI (6 * i + gq))), (8, .int 0), (7, .int (nI i)), (0, .ref (K 0)), (1, .int k), (2, .int n), (3, .int y), (4, .int kd), (5, .long x)]) hx hb d_Model_property_73 hl (by decide) rfl (fun ls hl => ?_)
          refine lv_iload hx hb d_Model_property_75 (lv_at hl 7 rfl) ?_
          refine lv_iconst (v := 3) hx hb d_Model_property_77 (by decide) ?_
          refine lv_icmp_ne (tgt := 89) hx hb d_Model_property_78 (by decide) (fun c78 => ?_) (fun c78 => ?_)
          · refine lv_lload hx hb d_Model_property_89 (lv_at hl 8 rfl) ?_
            refine lv_lstore (lv' := [(10, .long x), (9, .int (nI (6 * i + gq))), (8, .int 0), (7, .int (nI i)), (0, .ref (K 0)), (1, .int k), (2, .int n), (3, .int y), (4, .int kd), (5, .long x)]) hx hb d_Model_property_91 hl (by decide) rfl (fun ls hl => ?_)
            refine lv_iload hx hb d_Model_property_93 (lv_at hl 3 rfl) ?_
            refine gk_if_lt (x := i) (tgt := 138) hx hb d_Model_property_95 (by decide) (by omega) ?_
            refine lv_iload hx hb d_Model_property_98 (lv_at hl 2 rfl) ?_
            refine lv_if_ne (tgt := 138) hx hb d_Model_property_100 (by decide) (fun c100 => ?_) (fun c100 => ?_)
            · exact absurd c100 (by decide)
            · refine lv_iload hx hb d_Model_property_103 (lv_at hl 8 rfl) ?_
              refine lv_if_ne (tgt := 116) hx hb d_Model_property_105 (by decide) (fun c105 => ?_) (fun c105 => ?_)
              · refine lv_iload hx hb d_Model_property_116 (lv_at hl 1 rfl) ?_
                refine gk_if_lt (x := 6 * i + gq) (tgt := 134) hx hb d_Model_property_118 (by decide) (by omega) ?_
                refine lv_aload_n hx hb d_Model_property_121 rfl (lv_at hl 4 rfl) ?_
                refine lv_iload hx hb d_Model_property_122 (lv_at hl 1 rfl) ?_
                refine lv_iload hx hb d_Model_property_124 (lv_at hl 8 rfl) ?_
                refine lv_lload hx hb d_Model_property_126 (lv_at hl 0 rfl) ?_
                refine hv_call (hv_runV (As := [.int (nI (6 * i + gq)), .int kd, .long x]) (rest := []) (c_Model_isSame C kd x (q := 6 * i + gq) (by omega) hM (by show σ.tape.length ≤ 24; omega)) (hv_cw C hZ kc_Model_isSame kn_Model ⟨rfl, rfl, Nat.le_of_ble_eq_true rfl, Nat.le_of_ble_eq_true rfl⟩) hv_blind (hv_pre hZ hS hP) hx hml hb hown (hts _ k_Model_133) (hts _ ki_Model_isSame) (hts _ ksel_Model_Model_isSame) hy_Model_isSame (hts _ kc_Model_isSame) (va_recv hK (hv_one hP h1) (ci := 7) (q0 := 0) rfl rfl) rfl hl.1 rfl (lv_room (Nat.le_of_ble_eq_true rfl)) d_Model_property_128 ⟨Nat.le_of_ble_eq_true rfl, Nat.le_of_ble_eq_true rfl⟩) hZ hS (fun v9 w21 H locs q22 hP hS => ?_) (fun x9 w21 H locs q22 hP hS => q22.elim)
                obtain ⟨hw9, hq9⟩ := q22
                rw [hw9] at hP
                rcases hq9 with ⟨hv9, hs9⟩ | ⟨hv9, hs9⟩
                · subst hv9
                  have hpk : x_pk t.ps (y, kd, x, []) = 0 := by rw [x_pk_s hgl]; exact if_pos ((m_same0 c78 hp9 hwp).mp hs9)
                  show W _ _ _ _ _ _ _ _ _ _ _ _ _ _ _ (F0 m 131 ls [.int 1])
                  refine lv_if_ne (tgt := 138) hx hb d_Model_property_131 (by decide) (fun c131 => ?_) (fun c131 => ?_)
                  · refine lv_iconst (v := 0) hx hb d_Model_property_138 (by decide) ?_
                    refine lv_istore (lv' := [(12, .int 0), (10, .long x), (9, .int (nI (6 * i + gq))), (8, .int 0), (7, .int (nI i)), (0, .ref (K 0)), (1, .int k), (2, .int n), (3, .int y), (4, .int kd), (5, .long x)]) hx hb d_Model_property_139 hl (by decide) rfl (fun ls hl => ?_)
                    refine lv_aload_n hx hb d_Model_property_141 rfl (lv_at hl 5 rfl) ?_
                    refine lv_iload hx hb d_Model_property_142 (lv_at hl 4 rfl) ?_
                    refine gk_if_ge (x := i) (tgt := 151) hx hb d_Model_property_144 (by decide) (by omega) ?_
                    refine lv_iconst (v := 0) hx hb d_Model_property_151 (by decide) ?_
                    refine lv_iload hx hb d_Model_property_152 (lv_at hl 3 rfl) ?_
                    refine lv_iconst (v := 0) hx hb d_Model_property_154 (by decide) ?_
                    refine lv_iload hx hb d_Model_property_155 (lv_at hl 0 rfl) ?_
                    refine lv_if_eq (tgt := 181) hx hb d_Model_property_157 (by decide) (fun c157 => ?_) (fun c157 => ?_)
                    · refine lv_iconst (v := 0) hx hb d_Model_property_181 (by decide) ?_
                      refine lv_iload hx hb d_Model_property_182 (lv_at hl 0 rfl) ?_
                      refine hv_call (hv_runV (As := [.int 0, .int 0, .int 0, .int 0, .int 0]) (rest := []) (c_Model_fails C 0 0 0 0 0 hM (by show σ.ec + σ.sc ≤ 249; omega)) (hv_cw C hZ kc_Model_fails kn_Model ⟨rfl, rfl, Nat.le_of_ble_eq_true rfl, Nat.le_of_ble_eq_true rfl⟩) hv_blind (hv_pre hZ hS hP) hx hml hb hown (hts _ k_Model_116) (hts _ ki_Model_fails) (hts _ ksel_Model_Model_fails) hy_Model_fails (hts _ kc_Model_fails) (va_recv hK (hv_one hP h1) (ci := 7) (q0 := 0) rfl rfl) rfl hl.1 rfl (lv_room (Nat.le_of_ble_eq_true rfl)) d_Model_property_184 ⟨Nat.le_of_ble_eq_true rfl, Nat.le_of_ble_eq_true rfl⟩) hZ hS (fun v9 w23 H locs q24 hP hS => ?_) (fun x9 w23 H locs q24 hP hS => q24.elim)
                      rcases q24 with ⟨ho9, hv9, hM⟩ | ⟨ho9, he9, hv9, hM⟩ | ⟨ho9, he9, hv9, hM⟩
                      · exact absurd c4 ho9
                      · subst hv9
                        show W _ _ _ _ _ _ _ _ _ _ _ _ _ _ _ (F0 m 187 ls [.int 0])
                        refine lv_istore (lv' := [(13, .int 0), (12, .int 0), (10, .long x), (9, .int (nI (6 * i + gq))), (8, .int 0), (7, .int (nI i)), (0, .ref (K 0)), (1, .int k), (2, .int n), (3, .int y), (4, .int kd), (5, .long x)]) hx hb d_Model_property_187 hl (by decide) rfl (fun ls hl => ?_)
                        refine lv_iload hx hb d_Model_property_189 (lv_at hl 0 rfl) ?_
                        refine lv_if_ne (tgt := 275) hx hb d_Model_property_191 (by decide) (fun c191 => ?_) (fun c191 => ?_)
                        · exact absurd c191 (by decide)
                        · refine lv_iload hx hb d_Model_property_194 (lv_at hl 1 rfl) ?_
                          refine lv_if_eq (tgt := 275) hx hb d_Model_property_196 (by decide) (fun c196 => ?_) (fun c196 => ?_)
                          · refine lv_aload_n hx hb d_Model_property_275 rfl (lv_at hl 6 rfl) ?_
                            refine lv_iload hx hb d_Model_property_276 (lv_at hl 10 rfl) ?_
                            refine lv_iconst (v := 3) hx hb d_Model_property_278 (by decide) ?_
                            refine lv_icmp_ne (tgt := 291) hx hb d_Model_property_279 (by decide) (fun c279 => ?_) (fun c279 => ?_)
                            · refine lv_aload_n hx hb d_Model_property_291 rfl (lv_at hl 6 rfl) ?_
                              have h25 : w23 (K 0) = some (.inr (7, [.int 0, .ref (K 1), .ref (K 2), .ref (K 3), .ref (K 4), .ref (K 5), .ref (K 6), .ref (K 7), .ref (K 8), .ref (K 9), .ref (K 10), .ref (K 11), .ref (K 12), .int (nI (σ.tape.length)), .ref (K 13), .int (σ.err), .int (σ.off), .int (σ.ins), .int (nI (σ.sc)), .int (nI (σ.ec)), .int (nI (σ.en)), .int (σ.tr), .int (nI (σ.lo)), .int (σ.wr), .int (nI (σ.due))])) := hM.1.2 0 (by decide)
                              refine va_get (D := D) (ci := 7) (v := .int (nI (σ.tape.length))) (C := R_Model) (T := F_Model) (N := 25) hx hb hts i_Model hown hK (hv_one hP h25) 0 rfl rfl 13 (by decide) (hts _ k_Model_103) (fun _ h9 => h9) rfl d_Model_property_292 ?_
                              refine hv_put (D := D) (ci := 7) (v := .int (nI (σ.tape.length))) (ty := .int) (C := R_Model) (T := F_Model) (N := 25) hx hb hts i_Model t_Model t_Model_ok n_Model hown hK hP hS h25 rfl 13 (by decide) (hts _ k_Model_103) (fun _ h9 => h9) rfl (by decide +kernel) rfl rfl (Nat.le_of_ble_eq_true rfl) d_Model_property_295 (fun H locs hP hS => ?_)
                              obtain ⟨w26, ew26⟩ : ∃ z9 : hv_W, z9 = va_up w23 (K 0) (some (.inr (7, [.int 0, .ref (K 1), .ref (K 2), .ref (K 3), .ref (K 4), .ref (K 5), .ref (K 6), .ref (K 7), .ref (K 8), .ref (K 9), .ref (K 10), .ref (K 11), .ref (K 12), .int (nI (σ.tape.length)), .ref (K 13), .int (σ.err), .int (σ.off), .int (σ.ins), .int (nI (σ.sc)), .int (nI (σ.ec)), .int (nI (σ.en)), .int (σ.tr), .int (nI (σ.lo)), .int (σ.wr), .int (nI (σ.due))]))) := ⟨_, rfl⟩
                              have hP : hv_P D classes s0.heap.size w26 H := by rw [ew26]; exact hP
                              have hM : mK ca K w0 ((mAo t9 k9 p9 σ).sThrown 0) B w26 := by rw [ew26]; exact hM.put 0 (by decide) rfl
                              have h27 : w26 (K 0) = some (.inr (7, [.int 0, .ref (K 1), .ref (K 2), .ref (K 3), .ref (K 4), .ref (K 5), .ref (K 6), .ref (K 7), .ref (K 8), .ref (K 9), .ref (K 10), .ref (K 11), .ref (K 12), .int (nI (σ.tape.length)), .ref (K 13), .int (σ.err), .int (σ.off), .int (σ.ins), .int (nI (σ.sc)), .int (nI (σ.ec)), .int (nI (σ.en)), .int (σ.tr), .int (nI (σ.lo)), .int (σ.wr), .int (nI (σ.due))])) := by rw [ew26]; exact hv_up_s
                              refine lv_iload hx hb d_Model_property_298 (lv_at hl 0 rfl) ?_
                              refine lv_if_ne (tgt := 312) hx hb d_Model_property_300 (by decide) (fun c300 => ?_) (fun c300 => ?_)
                              · exact absurd c300 (by decide)
                              · refine lv_iload hx hb d_Model_property_303 (lv_at hl 1 rfl) ?_
                                refine lv_if_eq (tgt := 312) hx hb d_Model_property_305 (by decide) (fun c305 => ?_) (fun c305 => ?_)
                                · refine lv_iconst (v := 0) hx hb d_Model_property_312 (by decide) ?_
                                  exact hv_zret (v := 0) hQ hx hb hr (by decide) hZ hS hP hlocks d_Model_property_313 (mRet.of (r' := (σ, 0, 0)) (by rw [x_property, cif_pos c4, hf]; dsimp only; rw [cif_pos hok, cif_neg c105, cif_neg c78, x_put, cif_pos hpk]) (fun _ => rfl) hM ((hRel.thr 0).tp rfl) rfl)
                                · exact absurd c305 (by decide)
                            · exact absurd c279 c78
                          · exact absurd c196 (by decide)
                      · exact absurd (show m_fe (mAo t9 k9 p9 σ).earlier (mAo t9 k9 p9 σ).changes 0 0 0 0 0 = 0 by rw [m_fe, if_neg (by decide), if_neg (by decide), if_neg (by decide), if_neg (by decide), if_neg (fun z8 => absurd z8.1 (by decide))]) he9
                    · exact absurd c157 (by decide)
                  · exact absurd c131 (by decide)
                · subst hv9
                  have hpk : x_pk t.ps (y, kd, x, []) = 2 := by rw [x_pk_s hgl]; exact if_neg (fun z => hs9 ((m_same0 c78 hp9 hwp).mpr z))
                  show W _ _ _ _ _ _ _ _ _ _ _ _ _ _ _ (F0 m 131 ls [.int 0])
                  refine lv_if_ne (tgt := 138) hx hb d_Model_property_131 (by decide) (fun c131 => ?_) (fun c131 => ?_)
                  · exact absurd c131 (by decide)
                  · refine lv_iconst (v := 1) hx hb d_Model_property_134 (by decide) ?_
                    refine lv_goto (tgt := 139) hx hb d_Model_property_135 (by decide) ?_
                    refine lv_istore (lv' := [(12, .int 1), (10, .long x), (9, .int (nI (6 * i + gq))), (8, .int 0), (7, .int (nI i)), (0, .ref (K 0)), (1, .int k), (2, .int n), (3, .int y), (4, .int kd), (5, .long x)]) hx hb d_Model_property_139 hl (by decide) rfl (fun ls hl => ?_)
                    refine lv_aload_n hx hb d_Model_property_141 rfl (lv_at hl 5 rfl) ?_
                    refine lv_iload hx hb d_Model_property_142 (lv_at hl 4 rfl) ?_
                    refine gk_if_ge (x := i) (tgt := 151) hx hb d_Model_property_144 (by decide) (by omega) ?_
                    refine lv_iconst (v := 0) hx hb d_Model_property_151 (by decide) ?_
                    refine lv_iload hx hb d_Model_property_152 (lv_at hl 3 rfl) ?_
                    refine lv_iconst (v := 0) hx hb d_Model_property_154 (by decide) ?_
                    refine lv_iload hx hb d_Model_property_155 (lv_at hl 0 rfl) ?_
                    refine lv_if_eq (tgt := 181) hx hb d_Model_property_157 (by decide) (fun c157 => ?_) (fun c157 => ?_)
                    · exact absurd c157 (by decide)
                    · refine lv_iload hx hb d_Model_property_160 (lv_at hl 2 rfl) ?_
                      refine gk_if_ge (x := 6 * i + gq) (tgt := 181) hx hb d_Model_property_162 (by decide) (by omega) ?_
                      refine lv_iconst (v := 0) hx hb d_Model_property_181 (by decide) ?_
                      refine lv_iload hx hb d_Model_property_182 (lv_at hl 0 rfl) ?_
                      refine hv_call (hv_runV (As := [.int 0, .int 0, .int 0, .int 0, .int 1]) (rest := []) (c_Model_fails C 0 0 0 0 1 hM (by show σ.ec + σ.sc ≤ 249; omega)) (hv_cw C hZ kc_Model_fails kn_Model ⟨rfl, rfl, Nat.le_of_ble_eq_true rfl, Nat.le_of_ble_eq_true rfl⟩) hv_blind (hv_pre hZ hS hP) hx hml hb hown (hts _ k_Model_116) (hts _ ki_Model_fails) (hts _ ksel_Model_Model_fails) hy_Model_fails (hts _ kc_Model_fails) (va_recv hK (hv_one hP h1) (ci := 7) (q0 := 0) rfl rfl) rfl hl.1 rfl (lv_room (Nat.le_of_ble_eq_true rfl)) d_Model_property_184 ⟨Nat.le_of_ble_eq_true rfl, Nat.le_of_ble_eq_true rfl⟩) hZ hS (fun v9 w28 H locs q29 hP hS => ?_) (fun x9 w28 H locs q29 hP hS => q29.elim)
                      rcases q29 with ⟨ho9, hv9, hM⟩ | ⟨ho9, he9, hv9, hM⟩ | ⟨ho9, he9, hv9, hM⟩
                      · exact absurd c4 ho9
                      · have h249 : ¬ 249 ≤ σ.ec + σ.sc := fun z9 => by rw [m_fe, if_neg (by decide), if_neg (by decide), if_neg (by decide), if_neg (by decide), if_pos ⟨by decide, show σ.ec + σ.sc = 249 by omega⟩] at he9; exact absurd he9 (by decide)
                        subst hv9
                        show W _ _ _ _ _ _ _ _ _ _ _ _ _ _ _ (F0 m 187 ls [.int 0])
                        refine lv_istore (lv' := [(13, .int 0), (12, .int 1), (10, .long x), (9, .int (nI (6 * i + gq))), (8, .int 0), (7, .int (nI i)), (0, .ref (K 0)), (1, .int k), (2, .int n), (3, .int y), (4, .int kd), (5, .long x)]) hx hb d_Model_property_187 hl (by decide) rfl (fun ls hl => ?_)
                        refine lv_iload hx hb d_Model_property_189 (lv_at hl 0 rfl) ?_
                        refine lv_if_ne (tgt := 275) hx hb d_Model_property_191 (by decide) (fun c191 => ?_) (fun c191 => ?_)
                        · exact absurd c191 (by decide)
                        · refine lv_iload hx hb d_Model_property_194 (lv_at hl 1 rfl) ?_
                          refine lv_if_eq (tgt := 275) hx hb d_Model_property_196 (by decide) (fun c196 => ?_) (fun c196 => ?_)
                          · exact absurd c196 (by decide)
                          · refine lv_aload_n hx hb d_Model_property_199 rfl (lv_at hl 6 rfl) ?_
                            have h30 : w28 (K 0) = some (.inr (7, [.int 0, .ref (K 1), .ref (K 2), .ref (K 3), .ref (K 4), .ref (K 5), .ref (K 6), .ref (K 7), .ref (K 8), .ref (K 9), .ref (K 10), .ref (K 11), .ref (K 12), .int (nI (σ.tape.length)), .ref (K 13), .int (σ.err), .int (σ.off), .int (σ.ins), .int (nI (σ.sc)), .int (nI (σ.ec)), .int (nI (σ.en)), .int (σ.tr), .int (nI (σ.lo)), .int (σ.wr), .int (nI (σ.due))])) := hM.1.2 0 (by decide)
                            refine hv_call (hv_runV (As := []) (rest := []) (c_Model_begins C hM (hRel.thr 0) hW c4) (hv_cw C hZ kc_Model_begins kn_Model ⟨rfl, rfl, Nat.le_of_ble_eq_true rfl, Nat.le_of_ble_eq_true rfl⟩) hv_blind (hv_pre hZ hS hP) hx hml hb hown (hts _ k_Model_120) (hts _ ki_Model_begins) (hts _ ksel_Model_Model_begins) hy_Model_begins (hts _ kc_Model_begins) (va_recv hK (hv_one hP h30) (ci := 7) (q0 := 0) rfl rfl) rfl hl.1 rfl (lv_room (Nat.le_of_ble_eq_true rfl)) d_Model_property_200 ⟨Nat.le_of_ble_eq_true rfl, Nat.le_of_ble_eq_true rfl⟩) hZ hS (fun v9 w31 H locs q32 hP hS => ?_) (fun x9 w31 H locs q32 hP hS => q32.elim)
                            obtain ⟨hv9, B2, hM, hRel2⟩ := q32
                            subst hv9
                            have hM : mK ca K w0 (((mAo t9 k9 p9 σ).sThrown 0).sChanges (σ.sc + 1)) B2 w31 := hM
                            have hRel2 : mRel (((mAo t9 k9 p9 σ).sThrown 0).sChanges (σ.sc + 1)) B2 (σ.sSc (σ.sc + 1)) := hRel2
                            show W _ _ _ _ _ _ _ _ _ _ _ _ _ _ _ (F0 m 203 ls [])
                            have hT2 : mT B2 i i (some t) := by have z9 := mG0 hRel2.1.1 hi; rw [show (σ.sSc (σ.sc + 1)).now i = some t from ht] at z9; exact z9
                            have hl69 : t.ps.length ≤ 6 := hw.2.2.1
                            refine lv_iload hx hb d_Model_property_203 (lv_at hl 10 rfl) ?_
                            refine lv_if_ne (tgt := 219) hx hb d_Model_property_205 (by decide) (fun c205 => ?_) (fun c205 => ?_)
                            · refine lv_iload hx hb d_Model_property_219 (lv_at hl 3 rfl) ?_
                              refine gk_if_ge (x := 6 * i + gq) (tgt := 240) hx hb d_Model_property_221 (by decide) (by omega) ?_
                              refine lv_iload hx hb d_Model_property_240 (lv_at hl 3 rfl) ?_
                              refine lv_istore (lv' := [(14, .int (nI (6 * i + gq))), (13, .int 0), (12, .int 1), (10, .long x), (9, .int (nI (6 * i + gq))), (8, .int 0), (7, .int (nI i)), (0, .ref (K 0)), (1, .int k), (2, .int n), (3, .int y), (4, .int kd), (5, .long x)]) hx hb d_Model_property_242 hl (by decide) rfl (fun ls hl => ?_)
                              refine lv_aload_n hx hb d_Model_property_244 rfl (lv_at hl 7 rfl) ?_
                              have h33 : w31 (K 0) = some (.inr (7, [.int 0, .ref (K 1), .ref (K 2), .ref (K 3), .ref (K 4), .ref (K 5), .ref (K 6), .ref (K 7), .ref (K 8), .ref (K 9), .ref (K 10), .ref (K 11), .ref (K 12), .int (nI (σ.tape.length)), .ref (K 13), .int (σ.err), .int (σ.off), .int (σ.ins), .int (nI (σ.sc + 1)), .int (nI (σ.ec)), .int (nI (σ.en)), .int (σ.tr), .int (nI (σ.lo)), .int (σ.wr), .int (nI (σ.due))])) := hM.1.2 0 (by decide)
                              refine va_get (D := D) (ci := 7) (v := .ref (K 7)) (C := R_Model) (T := F_Model) (N := 25) hx hb hts i_Model hown hK (hv_one hP h33) 0 rfl rfl 7 (by decide) (hts _ k_Model_29) (fun _ h9 => h9) rfl d_Model_property_245 ?_
                              refine lv_iload hx hb d_Model_property_248 (lv_at hl 6 rfl) ?_
                              refine lv_dup2_11 hx hb d_Model_property_250 rfl rfl ?_
                              have h34 : w31 (K 7) = some (.inl (ca 0, 640, .inl B2.propertyMany)) := hM.1.2 7 (by decide)
                              refine va_iald hx hb hK (hv_one hP h34) 0 0 rfl rfl (vp_in_nI (n := i) (by omega) (by omega)) d_Model_property_251 ?_
                              rw [nI_clamp (n := i) (by omega)]
                              refine lv_topi (fun v9 e9 => ?_)
                              have e9 : v9 = nI t.ps.length := e9.trans (hT2.2.1.1)
                              subst e9
                              show W _ _ _ _ _ _ _ _ _ _ _ _ _ _ _ (F0 m 252 ls [.int (nI t.ps.length), .int (nI i), .ref (K 7)])
                              refine lv_iload hx hb d_Model_property_252 (lv_at hl 4 rfl) ?_
                              refine gk_if_ge (x := 6 * i + gq) (tgt := 261) hx hb d_Model_property_254 (by decide) (by omega) ?_
                              refine lv_iconst (v := 0) hx hb d_Model_property_261 (by decide) ?_
                              refine gk_iadd (x := t.ps.length) (y := 0) hx hb d_Model_property_262 ?_
                              refine hv_iast hx hb hK hP hS 0 h34 rfl (vp_in_nI (n := i) (by omega) (by omega)) d_Model_property_263 (fun H locs hP hS => ?_)
                              rw [nI_clamp (n := i) (by omega)] at hP
                              obtain ⟨w35, ew35⟩ : ∃ z9 : hv_W, z9 = va_up w31 (K 7) (some (.inl (ca 0, 640, .inl (upd B2.propertyMany i ((nI (t.ps.length + 0))))))) := ⟨_, rfl⟩
                              have hP : hv_P D classes s0.heap.size w35 H := by rw [ew35]; exact hP
                              have hM : mK ca K w0 (((mAo t9 k9 p9 σ).sThrown 0).sChanges (σ.sc + 1)) (B2.sPropertyMany (upd B2.propertyMany i ((nI (t.ps.length + 0))))) w35 := by rw [ew35]; exact hM.put 7 (by decide) rfl
                              have h36 : w35 (K 7) = some (.inl (ca 0, 640, .inl (upd B2.propertyMany i ((nI (t.ps.length + 0)))))) := by rw [ew35]; exact hv_up_s
                              refine lv_aload_n hx hb d_Model_property_264 rfl (lv_at hl 7 rfl) ?_
                              refine lv_iload hx hb d_Model_property_265 (lv_at hl 0 rfl) ?_
                              refine lv_iload_n hx hb d_Model_property_267 rfl (lv_at hl 10 rfl) ?_
                              refine lv_iload hx hb d_Model_property_268 (lv_at hl 11 rfl) ?_
                              refine lv_lload hx hb d_Model_property_270 (lv_at hl 3 rfl) ?_
                              have h37 : w35 (K 0) = some (.inr (7, [.int 0, .ref (K 1), .ref (K 2), .ref (K 3), .ref (K 4), .ref (K 5), .ref (K 6), .ref (K 7), .ref (K 8), .ref (K 9), .ref (K 10), .ref (K 11), .ref (K 12), .int (nI (σ.tape.length)), .ref (K 13), .int (σ.err), .int (σ.off), .int (σ.ins), .int (nI (σ.sc + 1)), .int (nI (σ.ec)), .int (nI (σ.en)), .int (σ.tr), .int (nI (σ.lo)), .int (σ.wr), .int (nI (σ.due))])) := hM.1.2 0 (by decide)
                              refine hv_call (hv_runV (As := [.int (nI (6 * i + gq)), .int y, .int kd, .long x]) (rest := []) (c_Model_lay C y kd x (q := 6 * i + gq) (by omega) hM) (hv_cw C hZ kc_Model_lay kn_Model ⟨rfl, rfl, Nat.le_of_ble_eq_true rfl, Nat.le_of_ble_eq_true rfl⟩) hv_blind (hv_pre hZ hS hP) hx hml hb hown (hts _ k_Model_140) (hts _ ki_Model_lay) (hts _ ksel_Model_Model_lay) hy_Model_lay (hts _ kc_Model_lay) (va_recv hK (hv_one hP h37) (ci := 7) (q0 := 0) rfl rfl) rfl hl.1 rfl (lv_room (Nat.le_of_ble_eq_true rfl)) d_Model_property_272 ⟨Nat.le_of_ble_eq_true rfl, Nat.le_of_ble_eq_true rfl⟩) hZ hS (fun v9 w38 H locs q39 hP hS => ?_) (fun x9 w38 H locs q39 hP hS => q39.elim)
                              obtain ⟨hv9, g, hM, hg1, hg2⟩ := q39
                              subst hv9
                              have hM : mK ca K w0 (((mAo t9 k9 p9 σ).sThrown 0).sChanges (σ.sc + 1)) (mLaid B2 (upd B2.propertyMany i (nI (t.ps.length + 0))) (6 * i + gq) y kd x g) w38 := hM
                              have hg2 : ∀ j, (j < 3 * (6 * i + gq) ∨ 3 * (6 * i + gq) + 3 ≤ j) → g j = B2.texts j := hg2
                              show W _ _ _ _ _ _ _ _ _ _ _ _ _ _ _ (F0 m 275 ls [])
                              refine lv_aload_n hx hb d_Model_property_275 rfl (lv_at hl 7 rfl) ?_
                              refine lv_iload hx hb d_Model_property_276 (lv_at hl 11 rfl) ?_
                              refine lv_iconst (v := 3) hx hb d_Model_property_278 (by decide) ?_
                              refine lv_icmp_ne (tgt := 291) hx hb d_Model_property_279 (by decide) (fun c279 => ?_) (fun c279 => ?_)
                              · refine lv_aload_n hx hb d_Model_property_291 rfl (lv_at hl 7 rfl) ?_
                                have h40 : w38 (K 0) = some (.inr (7, [.int 0, .ref (K 1), .ref (K 2), .ref (K 3), .ref (K 4), .ref (K 5), .ref (K 6), .ref (K 7), .ref (K 8), .ref (K 9), .ref (K 10), .ref (K 11), .ref (K 12), .int (nI (σ.tape.length)), .ref (K 13), .int (σ.err), .int (σ.off), .int (σ.ins), .int (nI (σ.sc + 1)), .int (nI (σ.ec)), .int (nI (σ.en)), .int (σ.tr), .int (nI (σ.lo)), .int (σ.wr), .int (nI (σ.due))])) := hM.1.2 0 (by decide)
                                refine va_get (D := D) (ci := 7) (v := .int (nI (σ.tape.length))) (C := R_Model) (T := F_Model) (N := 25) hx hb hts i_Model hown hK (hv_one hP h40) 0 rfl rfl 13 (by decide) (hts _ k_Model_103) (fun _ h9 => h9) rfl d_Model_property_292 ?_
                                refine hv_put (D := D) (ci := 7) (v := .int (nI (σ.tape.length))) (ty := .int) (C := R_Model) (T := F_Model) (N := 25) hx hb hts i_Model t_Model t_Model_ok n_Model hown hK hP hS h40 rfl 13 (by decide) (hts _ k_Model_103) (fun _ h9 => h9) rfl (by decide +kernel) rfl rfl (Nat.le_of_ble_eq_true rfl) d_Model_property_295 (fun H locs hP hS => ?_)
                                obtain ⟨w41, ew41⟩ : ∃ z9 : hv_W, z9 = va_up w38 (K 0) (some (.inr (7, [.int 0, .ref (K 1), .ref (K 2), .ref (K 3), .ref (K 4), .ref (K 5), .ref (K 6), .ref (K 7), .ref (K 8), .ref (K 9), .ref (K 10), .ref (K 11), .ref (K 12), .int (nI (σ.tape.length)), .ref (K 13), .int (σ.err), .int (σ.off), .int (σ.ins), .int (nI (σ.sc + 1)), .int (nI (σ.ec)), .int (nI (σ.en)), .int (σ.tr), .int (nI (σ.lo)), .int (σ.wr), .int (nI (σ.due))]))) := ⟨_, rfl⟩
                                have hP : hv_P D classes s0.heap.size w41 H := by rw [ew41]; exact hP
                                have hM : mK ca K w0 (((mAo t9 k9 p9 σ).sThrown 0).sChanges (σ.sc + 1)) (mLaid B2 (upd B2.propertyMany i (nI (t.ps.length + 0))) (6 * i + gq) y kd x g) w41 := by rw [ew41]; exact hM.put 0 (by decide) rfl
                                have h42 : w41 (K 0) = some (.inr (7, [.int 0, .ref (K 1), .ref (K 2), .ref (K 3), .ref (K 4), .ref (K 5), .ref (K 6), .ref (K 7), .ref (K 8), .ref (K 9), .ref (K 10), .ref (K 11), .ref (K 12), .int (nI (σ.tape.length)), .ref (K 13), .int (σ.err), .int (σ.off), .int (σ.ins), .int (nI (σ.sc + 1)), .int (nI (σ.ec)), .int (nI (σ.en)), .int (σ.tr), .int (nI (σ.lo)), .int (σ.wr), .int (nI (σ.due))])) := by rw [ew41]; exact hv_up_s
                                refine lv_iload hx hb d_Model_property_298 (lv_at hl 1 rfl) ?_
                                refine lv_if_ne (tgt := 312) hx hb d_Model_property_300 (by decide) (fun c300 => ?_) (fun c300 => ?_)
                                · exact absurd c300 (by decide)
                                · refine lv_iload hx hb d_Model_property_303 (lv_at hl 2 rfl) ?_
                                  refine lv_if_eq (tgt := 312) hx hb d_Model_property_305 (by decide) (fun c305 => ?_) (fun c305 => ?_)
                                  · exact absurd c305 (by decide)
                                  · refine lv_iconst (v := 1) hx hb d_Model_property_308 (by decide) ?_
                                    refine lv_goto (tgt := 313) hx hb d_Model_property_309 (by decide) ?_
                                    exact hv_zret (v := 1) hQ hx hb hr (by decide) hZ hS hP hlocks d_Model_property_313 (mRet.of (r' := ((x_one σ i (some (t.sPs (g_put t.ps (y, kd, x, []))))), 0, 1)) (by rw [x_property, cif_pos c4, hf]; dsimp only; rw [cif_pos hok, cif_neg c105, cif_neg c78, x_put, cif_neg (fun z => absurd (hpk.symm.trans z) (by decide)), cif_neg (fun z => absurd (hpk.symm.trans z) (by decide)), cif_neg (show ¬ 249 ≤ σ.ec + σ.sc from h249)]) (fun _ => rfl) hM ((hRel2.set hW.1 hi (o := some (t.sPs (g_put t.ps (y, kd, x, [])))) (fun j hj => mEq_laid hj hg6 (fun j9 hj9 => pk_un hj9) hg2) (by rw [g_put_set (by rw [← hgq]; exact hg)]; rw [show g_pos t.ps ((y, kd, x, []) : gP).1 = gq from hgq.symm]; exact mT_ps hT2 hg6 hw (by rw [List.length_set]; exact hl69) (by rw [pk_us, List.length_set]; rfl) (ps_set1 hg) ps_set2 (fun k9 hk9 => absurd hk9 (Nat.not_lt_zero _)) hg2) (Or.inr hT2.1)).tp rfl) rfl)
                              · exact absurd c279 c78
                            · exact absurd c205 c105
                      · have h249 : 249 ≤ σ.ec + σ.sc := Classical.byContradiction fun z9 => he9 (by rw [m_fe, if_neg (by decide), if_neg (by decide), if_neg (by decide), if_neg (by decide), if_neg (fun z8 => z9 (by have h8 : σ.ec + σ.sc = 249 := z8.2; omega))])
                        rw [show m_fe (mAo t9 k9 p9 σ).earlier (mAo t9 k9 p9 σ).changes 0 0 0 0 1 = 9 by rw [m_fe, if_neg (by decide), if_neg (by decide), if_neg (by decide), if_neg (by decide), if_pos ⟨by decide, show σ.ec + σ.sc = 249 by omega⟩]] at hM
                        subst hv9
                        show W _ _ _ _ _ _ _ _ _ _ _ _ _ _ _ (F0 m 187 ls [.int 1])
                        refine lv_istore (lv' := [(13, .int 1), (12, .int 1), (10, .long x), (9, .int (nI (6 * i + gq))), (8, .int 0), (7, .int (nI i)), (0, .ref (K 0)), (1, .int k), (2, .int n), (3, .int y), (4, .int kd), (5, .long x)]) hx hb d_Model_property_187 hl (by decide) rfl (fun ls hl => ?_)
                        refine lv_iload hx hb d_Model_property_189 (lv_at hl 0 rfl) ?_
                        refine lv_if_ne (tgt := 275) hx hb d_Model_property_191 (by decide) (fun c191 => ?_) (fun c191 => ?_)
                        · refine lv_aload_n hx hb d_Model_property_275 rfl (lv_at hl 6 rfl) ?_
                          refine lv_iload hx hb d_Model_property_276 (lv_at hl 10 rfl) ?_
                          refine lv_iconst (v := 3) hx hb d_Model_property_278 (by decide) ?_
                          refine lv_icmp_ne (tgt := 291) hx hb d_Model_property_279 (by decide) (fun c279 => ?_) (fun c279 => ?_)
                          · refine lv_aload_n hx hb d_Model_property_291 rfl (lv_at hl 6 rfl) ?_
                            have h43 : w28 (K 0) = some (.inr (7, [.int 1, .ref (K 1), .ref (K 2), .ref (K 3), .ref (K 4), .ref (K 5), .ref (K 6), .ref (K 7), .ref (K 8), .ref (K 9), .ref (K 10), .ref (K 11), .ref (K 12), .int (nI (σ.tape.length)), .ref (K 13), .int 9, .int (σ.off), .int (σ.ins), .int (nI (σ.sc)), .int (nI (σ.ec)), .int (nI (σ.en)), .int (σ.tr), .int (nI (σ.lo)), .int (σ.wr), .int (nI (σ.due))])) := hM.1.2 0 (by decide)
                            refine va_get (D := D) (ci := 7) (v := .int (nI (σ.tape.length))) (C := R_Model) (T := F_Model) (N := 25) hx hb hts i_Model hown hK (hv_one hP h43) 0 rfl rfl 13 (by decide) (hts _ k_Model_103) (fun _ h9 => h9) rfl d_Model_property_292 ?_
                            refine hv_put (D := D) (ci := 7) (v := .int (nI (σ.tape.length))) (ty := .int) (C := R_Model) (T := F_Model) (N := 25) hx hb hts i_Model t_Model t_Model_ok n_Model hown hK hP hS h43 rfl 13 (by decide) (hts _ k_Model_103) (fun _ h9 => h9) rfl (by decide +kernel) rfl rfl (Nat.le_of_ble_eq_true rfl) d_Model_property_295 (fun H locs hP hS => ?_)
                            obtain ⟨w44, ew44⟩ : ∃ z9 : hv_W, z9 = va_up w28 (K 0) (some (.inr (7, [.int 1, .ref (K 1), .ref (K 2), .ref (K 3), .ref (K 4), .ref (K 5), .ref (K 6), .ref (K 7), .ref (K 8), .ref (K 9), .ref (K 10), .ref (K 11), .ref (K 12), .int (nI (σ.tape.length)), .ref (K 13), .int 9, .int (σ.off), .int (σ.ins), .int (nI (σ.sc)), .int (nI (σ.ec)), .int (nI (σ.en)), .int (σ.tr), .int (nI (σ.lo)), .int (σ.wr), .int (nI (σ.due))]))) := ⟨_, rfl⟩
                            have hP : hv_P D classes s0.heap.size w44 H := by rw [ew44]; exact hP
                            have hM : mK ca K w0 (((mAo t9 k9 p9 σ).sThrown 1).sError 9) B w44 := by rw [ew44]; exact hM.put 0 (by decide) rfl
                            have h45 : w44 (K 0) = some (.inr (7, [.int 1, .ref (K 1), .ref (K 2), .ref (K 3), .ref (K 4), .ref (K 5), .ref (K 6), .ref (K 7), .ref (K 8), .ref (K 9), .ref (K 10), .ref (K 11), .ref (K 12), .int (nI (σ.tape.length)), .ref (K 13), .int 9, .int (σ.off), .int (σ.ins), .int (nI (σ.sc)), .int (nI (σ.ec)), .int (nI (σ.en)), .int (σ.tr), .int (nI (σ.lo)), .int (σ.wr), .int (nI (σ.due))])) := by rw [ew44]; exact hv_up_s
                            refine lv_iload hx hb d_Model_property_298 (lv_at hl 0 rfl) ?_
                            refine lv_if_ne (tgt := 312) hx hb d_Model_property_300 (by decide) (fun c300 => ?_) (fun c300 => ?_)
                            · refine lv_iconst (v := 0) hx hb d_Model_property_312 (by decide) ?_
                              exact hv_zret (v := 0) hQ hx hb hr (by decide) hZ hS hP hlocks d_Model_property_313 (mRet.of (r' := ((σ.sErr 9), 1, 0)) (by rw [x_property, cif_pos c4, hf]; dsimp only; rw [cif_pos hok, cif_neg c105, cif_neg c78, x_put, cif_neg (fun z => absurd (hpk.symm.trans z) (by decide)), cif_neg (fun z => absurd (hpk.symm.trans z) (by decide)), cif_pos (show 249 ≤ σ.ec + σ.sc from h249)]) (fun z9 => absurd z9 (show ¬ (1 : Nat) = 0 by decide)) hM (((hRel.err 9).thr 1).tp rfl) rfl)
                            · exact absurd c300 (by decide)
                          · exact absurd c279 c78
                        · exact absurd c191 (by decide)
              · refine lv_iload hx hb d_Model_property_108 (lv_at hl 1 rfl) ?_
                refine gk_if_lt (x := 6 * i + gq) (tgt := 138) hx hb d_Model_property_110 (by decide) (by omega) ?_
                refine lv_goto (tgt := 134) hx hb d_Model_property_113 (by decide) ?_
                refine lv_iconst (v := 1) hx hb d_Model_property_134 (by decide) ?_
                refine lv_goto (tgt := 139) hx hb d_Model_property_135 (by decide) ?_
                refine lv_istore (lv' := [(12, .int 1), (10, .long x), (9, .int (nI (6 * i + gq))), (8, .int 0), (7, .int (nI i)), (0, .ref (K 0)), (1, .int k), (2, .int n), (3, .int y), (4, .int kd), (5, .long x)]) hx hb d_Model_property_139 hl (by decide) rfl (fun ls hl => ?_)
                refine lv_aload_n hx hb d_Model_property_141 rfl (lv_at hl 5 rfl) ?_
                refine lv_iload hx hb d_Model_property_142 (lv_at hl 4 rfl) ?_
                refine gk_if_ge (x := i) (tgt := 151) hx hb d_Model_property_144 (by decide) (by omega) ?_
                refine lv_iconst (v := 0) hx hb d_Model_property_151 (by decide) ?_
                refine lv_iload hx hb d_Model_property_152 (lv_at hl 3 rfl) ?_
                refine lv_iconst (v := 0) hx hb d_Model_property_154 (by decide) ?_
                refine lv_iload hx hb d_Model_property_155 (lv_at hl 0 rfl) ?_
                refine lv_if_eq (tgt := 181) hx hb d_Model_property_157 (by decide) (fun c157 => ?_) (fun c157 => ?_)
                · exact absurd c157 (by decide)
                · refine lv_iload hx hb d_Model_property_160 (lv_at hl 2 rfl) ?_
                  refine gk_if_ge (x := 6 * i + gq) (tgt := 181) hx hb d_Model_property_162 (by decide) (by omega) ?_
                  refine lv_iconst (v := 0) hx hb d_Model_property_181 (by decide) ?_
                  refine lv_iload hx hb d_Model_property_182 (lv_at hl 0 rfl) ?_
                  refine hv_call (hv_runV (As := [.int 0, .int 0, .int 0, .int 0, .int 1]) (rest := []) (c_Model_fails C 0 0 0 0 1 hM (by show σ.ec + σ.sc ≤ 249; omega)) (hv_cw C hZ kc_Model_fails kn_Model ⟨rfl, rfl, Nat.le_of_ble_eq_true rfl, Nat.le_of_ble_eq_true rfl⟩) hv_blind (hv_pre hZ hS hP) hx hml hb hown (hts _ k_Model_116) (hts _ ki_Model_fails) (hts _ ksel_Model_Model_fails) hy_Model_fails (hts _ kc_Model_fails) (va_recv hK (hv_one hP h1) (ci := 7) (q0 := 0) rfl rfl) rfl hl.1 rfl (lv_room (Nat.le_of_ble_eq_true rfl)) d_Model_property_184 ⟨Nat.le_of_ble_eq_true rfl, Nat.le_of_ble_eq_true rfl⟩) hZ hS (fun v9 w46 H locs q47 hP hS => ?_) (fun x9 w46 H locs q47 hP hS => q47.elim)
                  rcases q47 with ⟨ho9, hv9, hM⟩ | ⟨ho9, he9, hv9, hM⟩ | ⟨ho9, he9, hv9, hM⟩
                  · exact absurd c4 ho9
                  · have h249 : ¬ 249 ≤ σ.ec + σ.sc := fun z9 => by rw [m_fe, if_neg (by decide), if_neg (by decide), if_neg (by decide), if_neg (by decide), if_pos ⟨by decide, show σ.ec + σ.sc = 249 by omega⟩] at he9; exact absurd he9 (by decide)
                    subst hv9
                    show W _ _ _ _ _ _ _ _ _ _ _ _ _ _ _ (F0 m 187 ls [.int 0])
                    refine lv_istore (lv' := [(13, .int 0), (12, .int 1), (10, .long x), (9, .int (nI (6 * i + gq))), (8, .int 0), (7, .int (nI i)), (0, .ref (K 0)), (1, .int k), (2, .int n), (3, .int y), (4, .int kd), (5, .long x)]) hx hb d_Model_property_187 hl (by decide) rfl (fun ls hl => ?_)
                    refine lv_iload hx hb d_Model_property_189 (lv_at hl 0 rfl) ?_
                    refine lv_if_ne (tgt := 275) hx hb d_Model_property_191 (by decide) (fun c191 => ?_) (fun c191 => ?_)
                    · exact absurd c191 (by decide)
                    · refine lv_iload hx hb d_Model_property_194 (lv_at hl 1 rfl) ?_
                      refine lv_if_eq (tgt := 275) hx hb d_Model_property_196 (by decide) (fun c196 => ?_) (fun c196 => ?_)
                      · exact absurd c196 (by decide)
                      · refine lv_aload_n hx hb d_Model_property_199 rfl (lv_at hl 6 rfl) ?_
                        have h48 : w46 (K 0) = some (.inr (7, [.int 0, .ref (K 1), .ref (K 2), .ref (K 3), .ref (K 4), .ref (K 5), .ref (K 6), .ref (K 7), .ref (K 8), .ref (K 9), .ref (K 10), .ref (K 11), .ref (K 12), .int (nI (σ.tape.length)), .ref (K 13), .int (σ.err), .int (σ.off), .int (σ.ins), .int (nI (σ.sc)), .int (nI (σ.ec)), .int (nI (σ.en)), .int (σ.tr), .int (nI (σ.lo)), .int (σ.wr), .int (nI (σ.due))])) := hM.1.2 0 (by decide)
                        refine hv_call (hv_runV (As := []) (rest := []) (c_Model_begins C hM (hRel.thr 0) hW c4) (hv_cw C hZ kc_Model_begins kn_Model ⟨rfl, rfl, Nat.le_of_ble_eq_true rfl, Nat.le_of_ble_eq_true rfl⟩) hv_blind (hv_pre hZ hS hP) hx hml hb hown (hts _ k_Model_120) (hts _ ki_Model_begins) (hts _ ksel_Model_Model_begins) hy_Model_begins (hts _ kc_Model_begins) (va_recv hK (hv_one hP h48) (ci := 7) (q0 := 0) rfl rfl) rfl hl.1 rfl (lv_room (Nat.le_of_ble_eq_true rfl)) d_Model_property_200 ⟨Nat.le_of_ble_eq_true rfl, Nat.le_of_ble_eq_true rfl⟩) hZ hS (fun v9 w49 H locs q50 hP hS => ?_) (fun x9 w49 H locs q50 hP hS => q50.elim)
                        obtain ⟨hv9, B2, hM, hRel2⟩ := q50
                        subst hv9
                        have hM : mK ca K w0 (((mAo t9 k9 p9 σ).sThrown 0).sChanges (σ.sc + 1)) B2 w49 := hM
                        have hRel2 : mRel (((mAo t9 k9 p9 σ).sThrown 0).sChanges (σ.sc + 1)) B2 (σ.sSc (σ.sc + 1)) := hRel2
                        show W _ _ _ _ _ _ _ _ _ _ _ _ _ _ _ (F0 m 203 ls [])
                        have hT2 : mT B2 i i (some t) := by have z9 := mG0 hRel2.1.1 hi; rw [show (σ.sSc (σ.sc + 1)).now i = some t from ht] at z9; exact z9
                        have hl69 : t.ps.length ≤ 6 := hw.2.2.1
                        refine lv_iload hx hb d_Model_property_203 (lv_at hl 10 rfl) ?_
                        refine lv_if_ne (tgt := 219) hx hb d_Model_property_205 (by decide) (fun c205 => ?_) (fun c205 => ?_)
                        · exact absurd c105 c205
                        · refine lv_aload_n hx hb d_Model_property_208 rfl (lv_at hl 6 rfl) ?_
                          refine lv_iload hx hb d_Model_property_209 (lv_at hl 5 rfl) ?_
                          refine lv_iload hx hb d_Model_property_211 (lv_at hl 3 rfl) ?_
                          have h51 : w49 (K 0) = some (.inr (7, [.int 0, .ref (K 1), .ref (K 2), .ref (K 3), .ref (K 4), .ref (K 5), .ref (K 6), .ref (K 7), .ref (K 8), .ref (K 9), .ref (K 10), .ref (K 11), .ref (K 12), .int (nI (σ.tape.length)), .ref (K 13), .int (σ.err), .int (σ.off), .int (σ.ins), .int (nI (σ.sc + 1)), .int (nI (σ.ec)), .int (nI (σ.en)), .int (σ.tr), .int (nI (σ.lo)), .int (σ.wr), .int (nI (σ.due))])) := hM.1.2 0 (by decide)
                          refine hv_call (hv_runV (As := [.int (nI i), .int (nI (6 * i + gq))]) (rest := []) (c_Model_dropProperty C (j := i) (q := 6 * i + gq) (n := t.ps.length) (by omega) hM hT2.2.1.1 (by omega) hw.2.2.1 (by omega) (by omega)) (hv_cw C hZ kc_Model_dropProperty kn_Model ⟨rfl, rfl, Nat.le_of_ble_eq_true rfl, Nat.le_of_ble_eq_true rfl⟩) hv_blind (hv_pre hZ hS hP) hx hml hb hown (hts _ k_Model_137) (hts _ ki_Model_dropProperty) (hts _ ksel_Model_Model_dropProperty) hy_Model_dropProperty (hts _ kc_Model_dropProperty) (va_recv hK (hv_one hP h51) (ci := 7) (q0 := 0) rfl rfl) rfl hl.1 rfl (lv_room (Nat.le_of_ble_eq_true rfl)) d_Model_property_213 ⟨Nat.le_of_ble_eq_true rfl, Nat.le_of_ble_eq_true rfl⟩) hZ hS (fun v9 w52 H locs q53 hP hS => ?_) (fun x9 w52 H locs q53 hP hS => q53.elim)
                          obtain ⟨hv9, g1, g2, g3, g4, hM, e1, e2, e3, e4⟩ := q53
                          subst hv9
                          have hM : mK ca K w0 (((mAo t9 k9 p9 σ).sThrown 0).sChanges (σ.sc + 1)) (mDropt B2 i t.ps.length g1 g2 g3 g4) w52 := hM
                          show W _ _ _ _ _ _ _ _ _ _ _ _ _ _ _ (F0 m 216 ls [])
                          refine lv_goto (tgt := 275) hx hb d_Model_property_216 (by decide) ?_
                          refine lv_aload_n hx hb d_Model_property_275 rfl (lv_at hl 6 rfl) ?_
                          refine lv_iload hx hb d_Model_property_276 (lv_at hl 10 rfl) ?_
                          refine lv_iconst (v := 3) hx hb d_Model_property_278 (by decide) ?_
                          refine lv_icmp_ne (tgt := 291) hx hb d_Model_property_279 (by decide) (fun c279 => ?_) (fun c279 => ?_)
                          · refine lv_aload_n hx hb d_Model_property_291 rfl (lv_at hl 6 rfl) ?_
                            have h54 : w52 (K 0) = some (.inr (7, [.int 0, .ref (K 1), .ref (K 2), .ref (K 3), .ref (K 4), .ref (K 5), .ref (K 6), .ref (K 7), .ref (K 8), .ref (K 9), .ref (K 10), .ref (K 11), .ref (K 12), .int (nI (σ.tape.length)), .ref (K 13), .int (σ.err), .int (σ.off), .int (σ.ins), .int (nI (σ.sc + 1)), .int (nI (σ.ec)), .int (nI (σ.en)), .int (σ.tr), .int (nI (σ.lo)), .int (σ.wr), .int (nI (σ.due))])) := hM.1.2 0 (by decide)
                            refine va_get (D := D) (ci := 7) (v := .int (nI (σ.tape.length))) (C := R_Model) (T := F_Model) (N := 25) hx hb hts i_Model hown hK (hv_one hP h54) 0 rfl rfl 13 (by decide) (hts _ k_Model_103) (fun _ h9 => h9) rfl d_Model_property_292 ?_
                            refine hv_put (D := D) (ci := 7) (v := .int (nI (σ.tape.length))) (ty := .int) (C := R_Model) (T := F_Model) (N := 25) hx hb hts i_Model t_Model t_Model_ok n_Model hown hK hP hS h54 rfl 13 (by decide) (hts _ k_Model_103) (fun _ h9 => h9) rfl (by decide +kernel) rfl rfl (Nat.le_of_ble_eq_true rfl) d_Model_property_295 (fun H locs hP hS => ?_)
                            obtain ⟨w55, ew55⟩ : ∃ z9 : hv_W, z9 = va_up w52 (K 0) (some (.inr (7, [.int 0, .ref (K 1), .ref (K 2), .ref (K 3), .ref (K 4), .ref (K 5), .ref (K 6), .ref (K 7), .ref (K 8), .ref (K 9), .ref (K 10), .ref (K 11), .ref (K 12), .int (nI (σ.tape.length)), .ref (K 13), .int (σ.err), .int (σ.off), .int (σ.ins), .int (nI (σ.sc + 1)), .int (nI (σ.ec)), .int (nI (σ.en)), .int (σ.tr), .int (nI (σ.lo)), .int (σ.wr), .int (nI (σ.due))]))) := ⟨_, rfl⟩
                            have hP : hv_P D classes s0.heap.size w55 H := by rw [ew55]; exact hP
                            have hM : mK ca K w0 (((mAo t9 k9 p9 σ).sThrown 0).sChanges (σ.sc + 1)) (mDropt B2 i t.ps.length g1 g2 g3 g4) w55 := by rw [ew55]; exact hM.put 0 (by decide) rfl
                            have h56 : w55 (K 0) = some (.inr (7, [.int 0, .ref (K 1), .ref (K 2), .ref (K 3), .ref (K 4), .ref (K 5), .ref (K 6), .ref (K 7), .ref (K 8), .ref (K 9), .ref (K 10), .ref (K 11), .ref (K 12), .int (nI (σ.tape.length)), .ref (K 13), .int (σ.err), .int (σ.off), .int (σ.ins), .int (nI (σ.sc + 1)), .int (nI (σ.ec)), .int (nI (σ.en)), .int (σ.tr), .int (nI (σ.lo)), .int (σ.wr), .int (nI (σ.due))])) := by rw [ew55]; exact hv_up_s
                            refine lv_iload hx hb d_Model_property_298 (lv_at hl 0 rfl) ?_
                            refine lv_if_ne (tgt := 312) hx hb d_Model_property_300 (by decide) (fun c300 => ?_) (fun c300 => ?_)
                            · exact absurd c300 (by decide)
                            · refine lv_iload hx hb d_Model_property_303 (lv_at hl 1 rfl) ?_
                              refine lv_if_eq (tgt := 312) hx hb d_Model_property_305 (by decide) (fun c305 => ?_) (fun c305 => ?_)
                              · exact absurd c305 (by decide)
                              · refine lv_iconst (v := 1) hx hb d_Model_property_308 (by decide) ?_
                                refine lv_goto (tgt := 313) hx hb d_Model_property_309 (by decide) ?_
                                exact hv_zret (v := 1) hQ hx hb hr (by decide) hZ hS hP hlocks d_Model_property_313 (mRet.of (r' := ((x_one σ i (some (t.sPs (g_drop t.ps y)))), 0, 1)) (by rw [x_property, cif_pos c4, hf]; dsimp only; rw [cif_pos hok, cif_pos c105, x_drp, hgl]; dsimp only; rw [cif_neg h249]) (fun _ => rfl) hM ((hRel2.set hW.1 hi (fun j hj => mEq_drop e1 e2 e3 e4 hj hl69) (by rw [g_drop, ← hgq]; exact mT_drop e1 e2 e3 e4 hT2 hw rfl hg) (Or.inr hT2.1)).tp rfl) rfl)
                          · exact absurd c279 c78
                  · have h249 : 249 ≤ σ.ec + σ.sc := Classical.byContradiction fun z9 => he9 (by rw [m_fe, if_neg (by decide), if_neg (by decide), if_neg (by decide), if_neg (by decide), if_neg (fun z8 => z9 (by have h8 : σ.ec + σ.sc = 249 := z8.2; omega))])
                    rw [show m_fe (mAo t9 k9 p9 σ).earlier (mAo t9 k9 p9 σ).changes 0 0 0 0 1 = 9 by rw [m_fe, if_neg (by decide), if_neg (by decide), if_neg (by decide), if_neg (by decide), if_pos ⟨by decide, show σ.ec + σ.sc = 249 by omega⟩]] at hM
                    subst hv9
                    show W _ _ _ _ _ _ _ _ _ _ _ _ _ _ _ (F0 m 187 ls [.int 1])
                    refine lv_istore (lv' := [(13, .int 1), (12, .int 1), (10, .long x), (9, .int (nI (6 * i + gq))), (8, .int 0), (7, .int (nI i)), (0, .ref (K 0)), (1, .int k), (2, .int n), (3, .int y), (4, .int kd), (5, .long x)]) hx hb d_Model_property_187 hl (by decide) rfl (fun ls hl => ?_)
                    refine lv_iload hx hb d_Model_property_189 (lv_at hl 0 rfl) ?_
                    refine lv_if_ne (tgt := 275) hx hb d_Model_property_191 (by decide) (fun c191 => ?_) (fun c191 => ?_)
                    · refine lv_aload_n hx hb d_Model_property_275 rfl (lv_at hl 6 rfl) ?_
                      refine lv_iload hx hb d_Model_property_276 (lv_at hl 10 rfl) ?_
                      refine lv_iconst (v := 3) hx hb d_Model_property_278 (by decide) ?_
                      refine lv_icmp_ne (tgt := 291) hx hb d_Model_property_279 (by decide) (fun c279 => ?_) (fun c279 => ?_)
                      · refine lv_aload_n hx hb d_Model_property_291 rfl (lv_at hl 6 rfl) ?_
                        have h57 : w46 (K 0) = some (.inr (7, [.int 1, .ref (K 1), .ref (K 2), .ref (K 3), .ref (K 4), .ref (K 5), .ref (K 6), .ref (K 7), .ref (K 8), .ref (K 9), .ref (K 10), .ref (K 11), .ref (K 12), .int (nI (σ.tape.length)), .ref (K 13), .int 9, .int (σ.off), .int (σ.ins), .int (nI (σ.sc)), .int (nI (σ.ec)), .int (nI (σ.en)), .int (σ.tr), .int (nI (σ.lo)), .int (σ.wr), .int (nI (σ.due))])) := hM.1.2 0 (by decide)
                        refine va_get (D := D) (ci := 7) (v := .int (nI (σ.tape.length))) (C := R_Model) (T := F_Model) (N := 25) hx hb hts i_Model hown hK (hv_one hP h57) 0 rfl rfl 13 (by decide) (hts _ k_Model_103) (fun _ h9 => h9) rfl d_Model_property_292 ?_
                        refine hv_put (D := D) (ci := 7) (v := .int (nI (σ.tape.length))) (ty := .int) (C := R_Model) (T := F_Model) (N := 25) hx hb hts i_Model t_Model t_Model_ok n_Model hown hK hP hS h57 rfl 13 (by decide) (hts _ k_Model_103) (fun _ h9 => h9) rfl (by decide +kernel) rfl rfl (Nat.le_of_ble_eq_true rfl) d_Model_property_295 (fun H locs hP hS => ?_)
                        obtain ⟨w58, ew58⟩ : ∃ z9 : hv_W, z9 = va_up w46 (K 0) (some (.inr (7, [.int 1, .ref (K 1), .ref (K 2), .ref (K 3), .ref (K 4), .ref (K 5), .ref (K 6), .ref (K 7), .ref (K 8), .ref (K 9), .ref (K 10), .ref (K 11), .ref (K 12), .int (nI (σ.tape.length)), .ref (K 13), .int 9, .int (σ.off), .int (σ.ins), .int (nI (σ.sc)), .int (nI (σ.ec)), .int (nI (σ.en)), .int (σ.tr), .int (nI (σ.lo)), .int (σ.wr), .int (nI (σ.due))]))) := ⟨_, rfl⟩
                        have hP : hv_P D classes s0.heap.size w58 H := by rw [ew58]; exact hP
                        have hM : mK ca K w0 (((mAo t9 k9 p9 σ).sThrown 1).sError 9) B w58 := by rw [ew58]; exact hM.put 0 (by decide) rfl
                        have h59 : w58 (K 0) = some (.inr (7, [.int 1, .ref (K 1), .ref (K 2), .ref (K 3), .ref (K 4), .ref (K 5), .ref (K 6), .ref (K 7), .ref (K 8), .ref (K 9), .ref (K 10), .ref (K 11), .ref (K 12), .int (nI (σ.tape.length)), .ref (K 13), .int 9, .int (σ.off), .int (σ.ins), .int (nI (σ.sc)), .int (nI (σ.ec)), .int (nI (σ.en)), .int (σ.tr), .int (nI (σ.lo)), .int (σ.wr), .int (nI (σ.due))])) := by rw [ew58]; exact hv_up_s
                        refine lv_iload hx hb d_Model_property_298 (lv_at hl 0 rfl) ?_
                        refine lv_if_ne (tgt := 312) hx hb d_Model_property_300 (by decide) (fun c300 => ?_) (fun c300 => ?_)
                        · refine lv_iconst (v := 0) hx hb d_Model_property_312 (by decide) ?_
                          exact hv_zret (v := 0) hQ hx hb hr (by decide) hZ hS hP hlocks d_Model_property_313 (mRet.of (r' := ((σ.sErr 9), 1, 0)) (by rw [x_property, cif_pos c4, hf]; dsimp only; rw [cif_pos hok, cif_pos c105, x_drp, hgl]; dsimp only; rw [cif_pos h249]) (fun z9 => absurd z9 (show ¬ (1 : Nat) = 0 by decide)) hM (((hRel.err 9).thr 1).tp rfl) rfl)
                        · exact absurd c300 (by decide)
                      · exact absurd c279 c78
                    · exact absurd c191 (by decide)
          · refine lv_aload_n hx hb d_Model_property_81 rfl (lv_at hl 3 rfl) ?_
            refine va_get (D := D) (ci := 7) (v := .int (nI (σ.tape.length))) (C := R_Model) (T := F_Model) (N := 25) hx hb hts i_Model hown hK (hv_one hP h1) 0 rfl rfl 13 (by decide) (hts _ k_Model_103) (fun _ h9 => h9) rfl d_Model_property_82 ?_
            refine lv_i2l (v := (nI (σ.tape.length)).toInt64) hx hb d_Model_property_85 rfl ?_
            refine lv_goto (tgt := 91) hx hb d_Model_property_86 (by decide) ?_
            refine lv_lstore (lv' := [(10, .long ((nI (σ.tape.length)).toInt64)), (9, .int (nI (6 * i + gq))), (8, .int 0), (7, .int (nI i)), (0, .ref (K 0)), (1, .int k), (2, .int n), (3, .int y), (4, .int kd), (5, .long x)]) hx hb d_Model_property_91 hl (by decide) rfl (fun ls hl => ?_)
            refine lv_iload hx hb d_Model_property_93 (lv_at hl 3 rfl) ?_
            refine gk_if_lt (x := i) (tgt := 138) hx hb d_Model_property_95 (by decide) (by omega) ?_
            refine lv_iload hx hb d_Model_property_98 (lv_at hl 2 rfl) ?_
            refine lv_if_ne (tgt := 138) hx hb d_Model_property_100 (by decide) (fun c100 => ?_) (fun c100 => ?_)
            · exact absurd c100 (by decide)
            · refine lv_iload hx hb d_Model_property_103 (lv_at hl 8 rfl) ?_
              refine lv_if_ne (tgt := 116) hx hb d_Model_property_105 (by decide) (fun c105 => ?_) (fun c105 => ?_)
              · refine lv_iload hx hb d_Model_property_116 (lv_at hl 1 rfl) ?_
                refine gk_if_lt (x := 6 * i + gq) (tgt := 134) hx hb d_Model_property_118 (by decide) (by omega) ?_
                refine lv_aload_n hx hb d_Model_property_121 rfl (lv_at hl 4 rfl) ?_
                refine lv_iload hx hb d_Model_property_122 (lv_at hl 1 rfl) ?_
                refine lv_iload hx hb d_Model_property_124 (lv_at hl 8 rfl) ?_
                refine lv_lload hx hb d_Model_property_126 (lv_at hl 0 rfl) ?_
                refine hv_call (hv_runV (As := [.int (nI (6 * i + gq)), .int kd, .long ((nI (σ.tape.length)).toInt64)]) (rest := []) (c_Model_isSame C kd ((nI σ.tape.length).toInt64) (q := 6 * i + gq) (by omega) hM (by show σ.tape.length ≤ 24; omega)) (hv_cw C hZ kc_Model_isSame kn_Model ⟨rfl, rfl, Nat.le_of_ble_eq_true rfl, Nat.le_of_ble_eq_true rfl⟩) hv_blind (hv_pre hZ hS hP) hx hml hb hown (hts _ k_Model_133) (hts _ ki_Model_isSame) (hts _ ksel_Model_Model_isSame) hy_Model_isSame (hts _ kc_Model_isSame) (va_recv hK (hv_one hP h1) (ci := 7) (q0 := 0) rfl rfl) rfl hl.1 rfl (lv_room (Nat.le_of_ble_eq_true rfl)) d_Model_property_128 ⟨Nat.le_of_ble_eq_true rfl, Nat.le_of_ble_eq_true rfl⟩) hZ hS (fun v9 w60 H locs q61 hP hS => ?_) (fun x9 w60 H locs q61 hP hS => q61.elim)
                obtain ⟨hw9, hq9⟩ := q61
                rw [hw9] at hP
                rcases hq9 with ⟨hv9, hs9⟩ | ⟨hv9, hs9⟩
                · subst hv9
                  have hpk : x_pk t.ps (y, kd, (nI σ.tape.length).toInt64, σ.tape) = 0 := by rw [x_pk_s hgl]; exact if_pos ((m_same3 c78 hRel hp9 hwp htp9).mp hs9)
                  show W _ _ _ _ _ _ _ _ _ _ _ _ _ _ _ (F0 m 131 ls [.int 1])
                  refine lv_if_ne (tgt := 138) hx hb d_Model_property_131 (by decide) (fun c131 => ?_) (fun c131 => ?_)
                  · refine lv_iconst (v := 0) hx hb d_Model_property_138 (by decide) ?_
                    refine lv_istore (lv' := [(12, .int 0), (10, .long ((nI (σ.tape.length)).toInt64)), (9, .int (nI (6 * i + gq))), (8, .int 0), (7, .int (nI i)), (0, .ref (K 0)), (1, .int k), (2, .int n), (3, .int y), (4, .int kd), (5, .long x)]) hx hb d_Model_property_139 hl (by decide) rfl (fun ls hl => ?_)
                    refine lv_aload_n hx hb d_Model_property_141 rfl (lv_at hl 5 rfl) ?_
                    refine lv_iload hx hb d_Model_property_142 (lv_at hl 4 rfl) ?_
                    refine gk_if_ge (x := i) (tgt := 151) hx hb d_Model_property_144 (by decide) (by omega) ?_
                    refine lv_iconst (v := 0) hx hb d_Model_property_151 (by decide) ?_
                    refine lv_iload hx hb d_Model_property_152 (lv_at hl 3 rfl) ?_
                    refine lv_iconst (v := 0) hx hb d_Model_property_154 (by decide) ?_
                    refine lv_iload hx hb d_Model_property_155 (lv_at hl 0 rfl) ?_
                    refine lv_if_eq (tgt := 181) hx hb d_Model_property_157 (by decide) (fun c157 => ?_) (fun c157 => ?_)
                    · refine lv_iconst (v := 0) hx hb d_Model_property_181 (by decide) ?_
                      refine lv_iload hx hb d_Model_property_182 (lv_at hl 0 rfl) ?_
                      refine hv_call (hv_runV (As := [.int 0, .int 0, .int 0, .int 0, .int 0]) (rest := []) (c_Model_fails C 0 0 0 0 0 hM (by show σ.ec + σ.sc ≤ 249; omega)) (hv_cw C hZ kc_Model_fails kn_Model ⟨rfl, rfl, Nat.le_of_ble_eq_true rfl, Nat.le_of_ble_eq_true rfl⟩) hv_blind (hv_pre hZ hS hP) hx hml hb hown (hts _ k_Model_116) (hts _ ki_Model_fails) (hts _ ksel_Model_Model_fails) hy_Model_fails (hts _ kc_Model_fails) (va_recv hK (hv_one hP h1) (ci := 7) (q0 := 0) rfl rfl) rfl hl.1 rfl (lv_room (Nat.le_of_ble_eq_true rfl)) d_Model_property_184 ⟨Nat.le_of_ble_eq_true rfl, Nat.le_of_ble_eq_true rfl⟩) hZ hS (fun v9 w62 H locs q63 hP hS => ?_) (fun x9 w62 H locs q63 hP hS => q63.elim)
                      rcases q63 with ⟨ho9, hv9, hM⟩ | ⟨ho9, he9, hv9, hM⟩ | ⟨ho9, he9, hv9, hM⟩
                      · exact absurd c4 ho9
                      · subst hv9
                        show W _ _ _ _ _ _ _ _ _ _ _ _ _ _ _ (F0 m 187 ls [.int 0])
                        refine lv_istore (lv' := [(13, .int 0), (12, .int 0), (10, .long ((nI (σ.tape.length)).toInt64)), (9, .int (nI (6 * i + gq))), (8, .int 0), (7, .int (nI i)), (0, .ref (K 0)), (1, .int k), (2, .int n), (3, .int y), (4, .int kd), (5, .long x)]) hx hb d_Model_property_187 hl (by decide) rfl (fun ls hl => ?_)
                        refine lv_iload hx hb d_Model_property_189 (lv_at hl 0 rfl) ?_
                        refine lv_if_ne (tgt := 275) hx hb d_Model_property_191 (by decide) (fun c191 => ?_) (fun c191 => ?_)
                        · exact absurd c191 (by decide)
                        · refine lv_iload hx hb d_Model_property_194 (lv_at hl 1 rfl) ?_
                          refine lv_if_eq (tgt := 275) hx hb d_Model_property_196 (by decide) (fun c196 => ?_) (fun c196 => ?_)
                          · refine lv_aload_n hx hb d_Model_property_275 rfl (lv_at hl 6 rfl) ?_
                            refine lv_iload hx hb d_Model_property_276 (lv_at hl 10 rfl) ?_
                            refine lv_iconst (v := 3) hx hb d_Model_property_278 (by decide) ?_
                            refine lv_icmp_ne (tgt := 291) hx hb d_Model_property_279 (by decide) (fun c279 => ?_) (fun c279 => ?_)
                            · exact absurd c78 c279
                            · refine lv_iload hx hb d_Model_property_282 (lv_at hl 5 rfl) ?_
                              refine gk_if_lt (x := i) (tgt := 291) hx hb d_Model_property_284 (by decide) (by omega) ?_
                              refine lv_iconst (v := 0) hx hb d_Model_property_287 (by decide) ?_
                              refine lv_goto (tgt := 295) hx hb d_Model_property_288 (by decide) ?_
                              have h64 : w62 (K 0) = some (.inr (7, [.int 0, .ref (K 1), .ref (K 2), .ref (K 3), .ref (K 4), .ref (K 5), .ref (K 6), .ref (K 7), .ref (K 8), .ref (K 9), .ref (K 10), .ref (K 11), .ref (K 12), .int (nI (σ.tape.length)), .ref (K 13), .int (σ.err), .int (σ.off), .int (σ.ins), .int (nI (σ.sc)), .int (nI (σ.ec)), .int (nI (σ.en)), .int (σ.tr), .int (nI (σ.lo)), .int (σ.wr), .int (nI (σ.due))])) := hM.1.2 0 (by decide)
                              refine hv_put (D := D) (ci := 7) (v := .int 0) (ty := .int) (C := R_Model) (T := F_Model) (N := 25) hx hb hts i_Model t_Model t_Model_ok n_Model hown hK hP hS h64 rfl 13 (by decide) (hts _ k_Model_103) (fun _ h9 => h9) rfl (by decide +kernel) rfl rfl (Nat.le_of_ble_eq_true rfl) d_Model_property_295 (fun H locs hP hS => ?_)
                              obtain ⟨w65, ew65⟩ : ∃ z9 : hv_W, z9 = va_up w62 (K 0) (some (.inr (7, [.int 0, .ref (K 1), .ref (K 2), .ref (K 3), .ref (K 4), .ref (K 5), .ref (K 6), .ref (K 7), .ref (K 8), .ref (K 9), .ref (K 10), .ref (K 11), .ref (K 12), .int 0, .ref (K 13), .int (σ.err), .int (σ.off), .int (σ.ins), .int (nI (σ.sc)), .int (nI (σ.ec)), .int (nI (σ.en)), .int (σ.tr), .int (nI (σ.lo)), .int (σ.wr), .int (nI (σ.due))]))) := ⟨_, rfl⟩
                              have hP : hv_P D classes s0.heap.size w65 H := by rw [ew65]; exact hP
                              have hM : mK ca K w0 (((mAo t9 k9 p9 σ).sThrown 0).sTapeSize 0) B w65 := by rw [ew65]; exact hM.put 0 (by decide) rfl
                              have h66 : w65 (K 0) = some (.inr (7, [.int 0, .ref (K 1), .ref (K 2), .ref (K 3), .ref (K 4), .ref (K 5), .ref (K 6), .ref (K 7), .ref (K 8), .ref (K 9), .ref (K 10), .ref (K 11), .ref (K 12), .int 0, .ref (K 13), .int (σ.err), .int (σ.off), .int (σ.ins), .int (nI (σ.sc)), .int (nI (σ.ec)), .int (nI (σ.en)), .int (σ.tr), .int (nI (σ.lo)), .int (σ.wr), .int (nI (σ.due))])) := by rw [ew65]; exact hv_up_s
                              refine lv_iload hx hb d_Model_property_298 (lv_at hl 0 rfl) ?_
                              refine lv_if_ne (tgt := 312) hx hb d_Model_property_300 (by decide) (fun c300 => ?_) (fun c300 => ?_)
                              · exact absurd c300 (by decide)
                              · refine lv_iload hx hb d_Model_property_303 (lv_at hl 1 rfl) ?_
                                refine lv_if_eq (tgt := 312) hx hb d_Model_property_305 (by decide) (fun c305 => ?_) (fun c305 => ?_)
                                · refine lv_iconst (v := 0) hx hb d_Model_property_312 (by decide) ?_
                                  exact hv_zret (v := 0) hQ hx hb hr (by decide) hZ hS hP hlocks d_Model_property_313 (mRet.of (r' := ((σ.sTape []), 0, 0)) (by rw [x_property, cif_pos c4, hf]; dsimp only; rw [cif_pos hok, cif_neg c105, cif_pos c78, x_put, cif_pos hpk]) (fun _ => rfl) hM ((hRel.thr 0).tape0) rfl)
                                · exact absurd c305 (by decide)
                          · exact absurd c196 (by decide)
                      · exact absurd (show m_fe (mAo t9 k9 p9 σ).earlier (mAo t9 k9 p9 σ).changes 0 0 0 0 0 = 0 by rw [m_fe, if_neg (by decide), if_neg (by decide), if_neg (by decide), if_neg (by decide), if_neg (fun z8 => absurd z8.1 (by decide))]) he9
                    · exact absurd c157 (by decide)
                  · exact absurd c131 (by decide)
                · subst hv9
                  have hpk : x_pk t.ps (y, kd, (nI σ.tape.length).toInt64, σ.tape) = 2 := by rw [x_pk_s hgl]; exact if_neg (fun z => hs9 ((m_same3 c78 hRel hp9 hwp htp9).mpr z))
                  show W _ _ _ _ _ _ _ _ _ _ _ _ _ _ _ (F0 m 131 ls [.int 0])
                  refine lv_if_ne (tgt := 138) hx hb d_Model_property_131 (by decide) (fun c131 => ?_) (fun c131 => ?_)
                  · exact absurd c131 (by decide)
                  · refine lv_iconst (v := 1) hx hb d_Model_property_134 (by decide) ?_
                    refine lv_goto (tgt := 139) hx hb d_Model_property_135 (by decide) ?_
                    refine lv_istore (lv' := [(12, .int 1), (10, .long ((nI (σ.tape.length)).toInt64)), (9, .int (nI (6 * i + gq))), (8, .int 0), (7, .int (nI i)), (0, .ref (K 0)), (1, .int k), (2, .int n), (3, .int y), (4, .int kd), (5, .long x)]) hx hb d_Model_property_139 hl (by decide) rfl (fun ls hl => ?_)
                    refine lv_aload_n hx hb d_Model_property_141 rfl (lv_at hl 5 rfl) ?_
                    refine lv_iload hx hb d_Model_property_142 (lv_at hl 4 rfl) ?_
                    refine gk_if_ge (x := i) (tgt := 151) hx hb d_Model_property_144 (by decide) (by omega) ?_
                    refine lv_iconst (v := 0) hx hb d_Model_property_151 (by decide) ?_
                    refine lv_iload hx hb d_Model_property_152 (lv_at hl 3 rfl) ?_
                    refine lv_iconst (v := 0) hx hb d_Model_property_154 (by decide) ?_
                    refine lv_iload hx hb d_Model_property_155 (lv_at hl 0 rfl) ?_
                    refine lv_if_eq (tgt := 181) hx hb d_Model_property_157 (by decide) (fun c157 => ?_) (fun c157 => ?_)
                    · exact absurd c157 (by decide)
                    · refine lv_iload hx hb d_Model_property_160 (lv_at hl 2 rfl) ?_
                      refine gk_if_ge (x := 6 * i + gq) (tgt := 181) hx hb d_Model_property_162 (by decide) (by omega) ?_
                      refine lv_iconst (v := 0) hx hb d_Model_property_181 (by decide) ?_
                      refine lv_iload hx hb d_Model_property_182 (lv_at hl 0 rfl) ?_
                      refine hv_call (hv_runV (As := [.int 0, .int 0, .int 0, .int 0, .int 1]) (rest := []) (c_Model_fails C 0 0 0 0 1 hM (by show σ.ec + σ.sc ≤ 249; omega)) (hv_cw C hZ kc_Model_fails kn_Model ⟨rfl, rfl, Nat.le_of_ble_eq_true rfl, Nat.le_of_ble_eq_true rfl⟩) hv_blind (hv_pre hZ hS hP) hx hml hb hown (hts _ k_Model_116) (hts _ ki_Model_fails) (hts _ ksel_Model_Model_fails) hy_Model_fails (hts _ kc_Model_fails) (va_recv hK (hv_one hP h1) (ci := 7) (q0 := 0) rfl rfl) rfl hl.1 rfl (lv_room (Nat.le_of_ble_eq_true rfl)) d_Model_property_184 ⟨Nat.le_of_ble_eq_true rfl, Nat.le_of_ble_eq_true rfl⟩) hZ hS (fun v9 w67 H locs q68 hP hS => ?_) (fun x9 w67 H locs q68 hP hS => q68.elim)
                      rcases q68 with ⟨ho9, hv9, hM⟩ | ⟨ho9, he9, hv9, hM⟩ | ⟨ho9, he9, hv9, hM⟩
                      · exact absurd c4 ho9
                      · have h249 : ¬ 249 ≤ σ.ec + σ.sc := fun z9 => by rw [m_fe, if_neg (by decide), if_neg (by decide), if_neg (by decide), if_neg (by decide), if_pos ⟨by decide, show σ.ec + σ.sc = 249 by omega⟩] at he9; exact absurd he9 (by decide)
                        subst hv9
                        show W _ _ _ _ _ _ _ _ _ _ _ _ _ _ _ (F0 m 187 ls [.int 0])
                        refine lv_istore (lv' := [(13, .int 0), (12, .int 1), (10, .long ((nI (σ.tape.length)).toInt64)), (9, .int (nI (6 * i + gq))), (8, .int 0), (7, .int (nI i)), (0, .ref (K 0)), (1, .int k), (2, .int n), (3, .int y), (4, .int kd), (5, .long x)]) hx hb d_Model_property_187 hl (by decide) rfl (fun ls hl => ?_)
                        refine lv_iload hx hb d_Model_property_189 (lv_at hl 0 rfl) ?_
                        refine lv_if_ne (tgt := 275) hx hb d_Model_property_191 (by decide) (fun c191 => ?_) (fun c191 => ?_)
                        · exact absurd c191 (by decide)
                        · refine lv_iload hx hb d_Model_property_194 (lv_at hl 1 rfl) ?_
                          refine lv_if_eq (tgt := 275) hx hb d_Model_property_196 (by decide) (fun c196 => ?_) (fun c196 => ?_)
                          · exact absurd c196 (by decide)
                          · refine lv_aload_n hx hb d_Model_property_199 rfl (lv_at hl 6 rfl) ?_
                            have h69 : w67 (K 0) = some (.inr (7, [.int 0, .ref (K 1), .ref (K 2), .ref (K 3), .ref (K 4), .ref (K 5), .ref (K 6), .ref (K 7), .ref (K 8), .ref (K 9), .ref (K 10), .ref (K 11), .ref (K 12), .int (nI (σ.tape.length)), .ref (K 13), .int (σ.err), .int (σ.off), .int (σ.ins), .int (nI (σ.sc)), .int (nI (σ.ec)), .int (nI (σ.en)), .int (σ.tr), .int (nI (σ.lo)), .int (σ.wr), .int (nI (σ.due))])) := hM.1.2 0 (by decide)
                            refine hv_call (hv_runV (As := []) (rest := []) (c_Model_begins C hM (hRel.thr 0) hW c4) (hv_cw C hZ kc_Model_begins kn_Model ⟨rfl, rfl, Nat.le_of_ble_eq_true rfl, Nat.le_of_ble_eq_true rfl⟩) hv_blind (hv_pre hZ hS hP) hx hml hb hown (hts _ k_Model_120) (hts _ ki_Model_begins) (hts _ ksel_Model_Model_begins) hy_Model_begins (hts _ kc_Model_begins) (va_recv hK (hv_one hP h69) (ci := 7) (q0 := 0) rfl rfl) rfl hl.1 rfl (lv_room (Nat.le_of_ble_eq_true rfl)) d_Model_property_200 ⟨Nat.le_of_ble_eq_true rfl, Nat.le_of_ble_eq_true rfl⟩) hZ hS (fun v9 w70 H locs q71 hP hS => ?_) (fun x9 w70 H locs q71 hP hS => q71.elim)
                            obtain ⟨hv9, B2, hM, hRel2⟩ := q71
                            subst hv9
                            have hM : mK ca K w0 (((mAo t9 k9 p9 σ).sThrown 0).sChanges (σ.sc + 1)) B2 w70 := hM
                            have hRel2 : mRel (((mAo t9 k9 p9 σ).sThrown 0).sChanges (σ.sc + 1)) B2 (σ.sSc (σ.sc + 1)) := hRel2
                            show W _ _ _ _ _ _ _ _ _ _ _ _ _ _ _ (F0 m 203 ls [])
                            have hT2 : mT B2 i i (some t) := by have z9 := mG0 hRel2.1.1 hi; rw [show (σ.sSc (σ.sc + 1)).now i = some t from ht] at z9; exact z9
                            have hl69 : t.ps.length ≤ 6 := hw.2.2.1
                            refine lv_iload hx hb d_Model_property_203 (lv_at hl 10 rfl) ?_
                            refine lv_if_ne (tgt := 219) hx hb d_Model_property_205 (by decide) (fun c205 => ?_) (fun c205 => ?_)
                            · refine lv_iload hx hb d_Model_property_219 (lv_at hl 3 rfl) ?_
                              refine gk_if_ge (x := 6 * i + gq) (tgt := 240) hx hb d_Model_property_221 (by decide) (by omega) ?_
                              refine lv_iload hx hb d_Model_property_240 (lv_at hl 3 rfl) ?_
                              refine lv_istore (lv' := [(14, .int (nI (6 * i + gq))), (13, .int 0), (12, .int 1), (10, .long ((nI (σ.tape.length)).toInt64)), (9, .int (nI (6 * i + gq))), (8, .int 0), (7, .int (nI i)), (0, .ref (K 0)), (1, .int k), (2, .int n), (3, .int y), (4, .int kd), (5, .long x)]) hx hb d_Model_property_242 hl (by decide) rfl (fun ls hl => ?_)
                              refine lv_aload_n hx hb d_Model_property_244 rfl (lv_at hl 7 rfl) ?_
                              have h72 : w70 (K 0) = some (.inr (7, [.int 0, .ref (K 1), .ref (K 2), .ref (K 3), .ref (K 4), .ref (K 5), .ref (K 6), .ref (K 7), .ref (K 8), .ref (K 9), .ref (K 10), .ref (K 11), .ref (K 12), .int (nI (σ.tape.length)), .ref (K 13), .int (σ.err), .int (σ.off), .int (σ.ins), .int (nI (σ.sc + 1)), .int (nI (σ.ec)), .int (nI (σ.en)), .int (σ.tr), .int (nI (σ.lo)), .int (σ.wr), .int (nI (σ.due))])) := hM.1.2 0 (by decide)
                              refine va_get (D := D) (ci := 7) (v := .ref (K 7)) (C := R_Model) (T := F_Model) (N := 25) hx hb hts i_Model hown hK (hv_one hP h72) 0 rfl rfl 7 (by decide) (hts _ k_Model_29) (fun _ h9 => h9) rfl d_Model_property_245 ?_
                              refine lv_iload hx hb d_Model_property_248 (lv_at hl 6 rfl) ?_
                              refine lv_dup2_11 hx hb d_Model_property_250 rfl rfl ?_
                              have h73 : w70 (K 7) = some (.inl (ca 0, 640, .inl B2.propertyMany)) := hM.1.2 7 (by decide)
                              refine va_iald hx hb hK (hv_one hP h73) 0 0 rfl rfl (vp_in_nI (n := i) (by omega) (by omega)) d_Model_property_251 ?_
                              rw [nI_clamp (n := i) (by omega)]
                              refine lv_topi (fun v9 e9 => ?_)
                              have e9 : v9 = nI t.ps.length := e9.trans (hT2.2.1.1)
                              subst e9
                              show W _ _ _ _ _ _ _ _ _ _ _ _ _ _ _ (F0 m 252 ls [.int (nI t.ps.length), .int (nI i), .ref (K 7)])
                              refine lv_iload hx hb d_Model_property_252 (lv_at hl 4 rfl) ?_
                              refine gk_if_ge (x := 6 * i + gq) (tgt := 261) hx hb d_Model_property_254 (by decide) (by omega) ?_
                              refine lv_iconst (v := 0) hx hb d_Model_property_261 (by decide) ?_
                              refine gk_iadd (x := t.ps.length) (y := 0) hx hb d_Model_property_262 ?_
                              refine hv_iast hx hb hK hP hS 0 h73 rfl (vp_in_nI (n := i) (by omega) (by omega)) d_Model_property_263 (fun H locs hP hS => ?_)
                              rw [nI_clamp (n := i) (by omega)] at hP
                              obtain ⟨w74, ew74⟩ : ∃ z9 : hv_W, z9 = va_up w70 (K 7) (some (.inl (ca 0, 640, .inl (upd B2.propertyMany i ((nI (t.ps.length + 0))))))) := ⟨_, rfl⟩
                              have hP : hv_P D classes s0.heap.size w74 H := by rw [ew74]; exact hP
                              have hM : mK ca K w0 (((mAo t9 k9 p9 σ).sThrown 0).sChanges (σ.sc + 1)) (B2.sPropertyMany (upd B2.propertyMany i ((nI (t.ps.length + 0))))) w74 := by rw [ew74]; exact hM.put 7 (by decide) rfl
                              have h75 : w74 (K 7) = some (.inl (ca 0, 640, .inl (upd B2.propertyMany i ((nI (t.ps.length + 0)))))) := by rw [ew74]; exact hv_up_s
                              refine lv_aload_n hx hb d_Model_property_264 rfl (lv_at hl 7 rfl) ?_
                              refine lv_iload hx hb d_Model_property_265 (lv_at hl 0 rfl) ?_
                              refine lv_iload_n hx hb d_Model_property_267 rfl (lv_at hl 10 rfl) ?_
                              refine lv_iload hx hb d_Model_property_268 (lv_at hl 11 rfl) ?_
                              refine lv_lload hx hb d_Model_property_270 (lv_at hl 3 rfl) ?_
                              have h76 : w74 (K 0) = some (.inr (7, [.int 0, .ref (K 1), .ref (K 2), .ref (K 3), .ref (K 4), .ref (K 5), .ref (K 6), .ref (K 7), .ref (K 8), .ref (K 9), .ref (K 10), .ref (K 11), .ref (K 12), .int (nI (σ.tape.length)), .ref (K 13), .int (σ.err), .int (σ.off), .int (σ.ins), .int (nI (σ.sc + 1)), .int (nI (σ.ec)), .int (nI (σ.en)), .int (σ.tr), .int (nI (σ.lo)), .int (σ.wr), .int (nI (σ.due))])) := hM.1.2 0 (by decide)
                              refine hv_call (hv_runV (As := [.int (nI (6 * i + gq)), .int y, .int kd, .long ((nI (σ.tape.length)).toInt64)]) (rest := []) (c_Model_lay C y kd ((nI σ.tape.length).toInt64) (q := 6 * i + gq) (by omega) hM) (hv_cw C hZ kc_Model_lay kn_Model ⟨rfl, rfl, Nat.le_of_ble_eq_true rfl, Nat.le_of_ble_eq_true rfl⟩) hv_blind (hv_pre hZ hS hP) hx hml hb hown (hts _ k_Model_140) (hts _ ki_Model_lay) (hts _ ksel_Model_Model_lay) hy_Model_lay (hts _ kc_Model_lay) (va_recv hK (hv_one hP h76) (ci := 7) (q0 := 0) rfl rfl) rfl hl.1 rfl (lv_room (Nat.le_of_ble_eq_true rfl)) d_Model_property_272 ⟨Nat.le_of_ble_eq_true rfl, Nat.le_of_ble_eq_true rfl⟩) hZ hS (fun v9 w77 H locs q78 hP hS => ?_) (fun x9 w77 H locs q78 hP hS => q78.elim)
                              obtain ⟨hv9, g, hM, hg1, hg2⟩ := q78
                              subst hv9
                              have hM : mK ca K w0 (((mAo t9 k9 p9 σ).sThrown 0).sChanges (σ.sc + 1)) (mLaid B2 (upd B2.propertyMany i (nI (t.ps.length + 0))) (6 * i + gq) y kd ((nI σ.tape.length).toInt64) g) w77 := hM
                              have hg2 : ∀ j, (j < 3 * (6 * i + gq) ∨ 3 * (6 * i + gq) + 3 ≤ j) → g j = B2.texts j := hg2
                              show W _ _ _ _ _ _ _ _ _ _ _ _ _ _ _ (F0 m 275 ls [])
                              refine lv_aload_n hx hb d_Model_property_275 rfl (lv_at hl 7 rfl) ?_
                              refine lv_iload hx hb d_Model_property_276 (lv_at hl 11 rfl) ?_
                              refine lv_iconst (v := 3) hx hb d_Model_property_278 (by decide) ?_
                              refine lv_icmp_ne (tgt := 291) hx hb d_Model_property_279 (by decide) (fun c279 => ?_) (fun c279 => ?_)
                              · exact absurd c78 c279
                              · refine lv_iload hx hb d_Model_property_282 (lv_at hl 6 rfl) ?_
                                refine gk_if_lt (x := i) (tgt := 291) hx hb d_Model_property_284 (by decide) (by omega) ?_
                                refine lv_iconst (v := 0) hx hb d_Model_property_287 (by decide) ?_
                                refine lv_goto (tgt := 295) hx hb d_Model_property_288 (by decide) ?_
                                have h79 : w77 (K 0) = some (.inr (7, [.int 0, .ref (K 1), .ref (K 2), .ref (K 3), .ref (K 4), .ref (K 5), .ref (K 6), .ref (K 7), .ref (K 8), .ref (K 9), .ref (K 10), .ref (K 11), .ref (K 12), .int (nI (σ.tape.length)), .ref (K 13), .int (σ.err), .int (σ.off), .int (σ.ins), .int (nI (σ.sc + 1)), .int (nI (σ.ec)), .int (nI (σ.en)), .int (σ.tr), .int (nI (σ.lo)), .int (σ.wr), .int (nI (σ.due))])) := hM.1.2 0 (by decide)
                                refine hv_put (D := D) (ci := 7) (v := .int 0) (ty := .int) (C := R_Model) (T := F_Model) (N := 25) hx hb hts i_Model t_Model t_Model_ok n_Model hown hK hP hS h79 rfl 13 (by decide) (hts _ k_Model_103) (fun _ h9 => h9) rfl (by decide +kernel) rfl rfl (Nat.le_of_ble_eq_true rfl) d_Model_property_295 (fun H locs hP hS => ?_)
                                obtain ⟨w80, ew80⟩ : ∃ z9 : hv_W, z9 = va_up w77 (K 0) (some (.inr (7, [.int 0, .ref (K 1), .ref (K 2), .ref (K 3), .ref (K 4), .ref (K 5), .ref (K 6), .ref (K 7), .ref (K 8), .ref (K 9), .ref (K 10), .ref (K 11), .ref (K 12), .int 0, .ref (K 13), .int (σ.err), .int (σ.off), .int (σ.ins), .int (nI (σ.sc + 1)), .int (nI (σ.ec)), .int (nI (σ.en)), .int (σ.tr), .int (nI (σ.lo)), .int (σ.wr), .int (nI (σ.due))]))) := ⟨_, rfl⟩
                                have hP : hv_P D classes s0.heap.size w80 H := by rw [ew80]; exact hP
                                have hM : mK ca K w0 ((((mAo t9 k9 p9 σ).sThrown 0).sTapeSize 0).sChanges (σ.sc + 1)) (mLaid B2 (upd B2.propertyMany i (nI (t.ps.length + 0))) (6 * i + gq) y kd ((nI σ.tape.length).toInt64) g) w80 := by rw [ew80]; exact hM.put 0 (by decide) rfl
                                have h81 : w80 (K 0) = some (.inr (7, [.int 0, .ref (K 1), .ref (K 2), .ref (K 3), .ref (K 4), .ref (K 5), .ref (K 6), .ref (K 7), .ref (K 8), .ref (K 9), .ref (K 10), .ref (K 11), .ref (K 12), .int 0, .ref (K 13), .int (σ.err), .int (σ.off), .int (σ.ins), .int (nI (σ.sc + 1)), .int (nI (σ.ec)), .int (nI (σ.en)), .int (σ.tr), .int (nI (σ.lo)), .int (σ.wr), .int (nI (σ.due))])) := by rw [ew80]; exact hv_up_s
                                refine lv_iload hx hb d_Model_property_298 (lv_at hl 1 rfl) ?_
                                refine lv_if_ne (tgt := 312) hx hb d_Model_property_300 (by decide) (fun c300 => ?_) (fun c300 => ?_)
                                · exact absurd c300 (by decide)
                                · refine lv_iload hx hb d_Model_property_303 (lv_at hl 2 rfl) ?_
                                  refine lv_if_eq (tgt := 312) hx hb d_Model_property_305 (by decide) (fun c305 => ?_) (fun c305 => ?_)
                                  · exact absurd c305 (by decide)
                                  · refine lv_iconst (v := 1) hx hb d_Model_property_308 (by decide) ?_
                                    refine lv_goto (tgt := 313) hx hb d_Model_property_309 (by decide) ?_
                                    exact hv_zret (v := 1) hQ hx hb hr (by decide) hZ hS hP hlocks d_Model_property_313 (mRet.of (r' := ((x_one (σ.sTape []) i (some (t.sPs (g_put t.ps (y, kd, (nI σ.tape.length).toInt64, σ.tape))))), 0, 1)) (by rw [x_property, cif_pos c4, hf]; dsimp only; rw [cif_pos hok, cif_neg c105, cif_pos c78, x_put, cif_neg (fun z => absurd (hpk.symm.trans z) (by decide)), cif_neg (fun z => absurd (hpk.symm.trans z) (by decide)), cif_neg (show ¬ 249 ≤ (σ.sTape []).ec + (σ.sTape []).sc from h249)]) (fun _ => rfl) hM ((hRel2.set hW.1 hi (o := some (t.sPs (g_put t.ps (y, kd, (nI σ.tape.length).toInt64, σ.tape)))) (fun j hj => mEq_laid hj hg6 (fun j9 hj9 => pk_un hj9) hg2) (by rw [g_put_set (by rw [← hgq]; exact hg)]; rw [show g_pos t.ps ((y, kd, (nI σ.tape.length).toInt64, σ.tape) : gP).1 = gq from hgq.symm]; exact mT_ps hT2 hg6 hw (by rw [List.length_set]; exact hl69) (by rw [pk_us, List.length_set]; rfl) (ps_set1 hg) ps_set2 (fun k9 hk9 => by rw [hg1 (k9 / 8) (by have z9 : k9 < σ.tape.length := hk9; omega), if_pos c78]; exact hRel.2.2.2.2.2.1 k9 hk9) hg2) (Or.inr hT2.1)).tape0) rfl)
                            · exact absurd c205 c105
                      · have h249 : 249 ≤ σ.ec + σ.sc := Classical.byContradiction fun z9 => he9 (by rw [m_fe, if_neg (by decide), if_neg (by decide), if_neg (by decide), if_neg (by decide), if_neg (fun z8 => z9 (by have h8 : σ.ec + σ.sc = 249 := z8.2; omega))])
                        rw [show m_fe (mAo t9 k9 p9 σ).earlier (mAo t9 k9 p9 σ).changes 0 0 0 0 1 = 9 by rw [m_fe, if_neg (by decide), if_neg (by decide), if_neg (by decide), if_neg (by decide), if_pos ⟨by decide, show σ.ec + σ.sc = 249 by omega⟩]] at hM
                        subst hv9
                        show W _ _ _ _ _ _ _ _ _ _ _ _ _ _ _ (F0 m 187 ls [.int 1])
                        refine lv_istore (lv' := [(13, .int 1), (12, .int 1), (10, .long ((nI (σ.tape.length)).toInt64)), (9, .int (nI (6 * i + gq))), (8, .int 0), (7, .int (nI i)), (0, .ref (K 0)), (1, .int k), (2, .int n), (3, .int y), (4, .int kd), (5, .long x)]) hx hb d_Model_property_187 hl (by decide) rfl (fun ls hl => ?_)
                        refine lv_iload hx hb d_Model_property_189 (lv_at hl 0 rfl) ?_
                        refine lv_if_ne (tgt := 275) hx hb d_Model_property_191 (by decide) (fun c191 => ?_) (fun c191 => ?_)
                        · refine lv_aload_n hx hb d_Model_property_275 rfl (lv_at hl 6 rfl) ?_
                          refine lv_iload hx hb d_Model_property_276 (lv_at hl 10 rfl) ?_
                          refine lv_iconst (v := 3) hx hb d_Model_property_278 (by decide) ?_
                          refine lv_icmp_ne (tgt := 291) hx hb d_Model_property_279 (by decide) (fun c279 => ?_) (fun c279 => ?_)
                          · exact absurd c78 c279
                          · refine lv_iload hx hb d_Model_property_282 (lv_at hl 5 rfl) ?_
                            refine gk_if_lt (x := i) (tgt := 291) hx hb d_Model_property_284 (by decide) (by omega) ?_
                            refine lv_iconst (v := 0) hx hb d_Model_property_287 (by decide) ?_
                            refine lv_goto (tgt := 295) hx hb d_Model_property_288 (by decide) ?_
                            have h82 : w67 (K 0) = some (.inr (7, [.int 1, .ref (K 1), .ref (K 2), .ref (K 3), .ref (K 4), .ref (K 5), .ref (K 6), .ref (K 7), .ref (K 8), .ref (K 9), .ref (K 10), .ref (K 11), .ref (K 12), .int (nI (σ.tape.length)), .ref (K 13), .int 9, .int (σ.off), .int (σ.ins), .int (nI (σ.sc)), .int (nI (σ.ec)), .int (nI (σ.en)), .int (σ.tr), .int (nI (σ.lo)), .int (σ.wr), .int (nI (σ.due))])) := hM.1.2 0 (by decide)
                            refine hv_put (D := D) (ci := 7) (v := .int 0) (ty := .int) (C := R_Model) (T := F_Model) (N := 25) hx hb hts i_Model t_Model t_Model_ok n_Model hown hK hP hS h82 rfl 13 (by decide) (hts _ k_Model_103) (fun _ h9 => h9) rfl (by decide +kernel) rfl rfl (Nat.le_of_ble_eq_true rfl) d_Model_property_295 (fun H locs hP hS => ?_)
                            obtain ⟨w83, ew83⟩ : ∃ z9 : hv_W, z9 = va_up w67 (K 0) (some (.inr (7, [.int 1, .ref (K 1), .ref (K 2), .ref (K 3), .ref (K 4), .ref (K 5), .ref (K 6), .ref (K 7), .ref (K 8), .ref (K 9), .ref (K 10), .ref (K 11), .ref (K 12), .int 0, .ref (K 13), .int 9, .int (σ.off), .int (σ.ins), .int (nI (σ.sc)), .int (nI (σ.ec)), .int (nI (σ.en)), .int (σ.tr), .int (nI (σ.lo)), .int (σ.wr), .int (nI (σ.due))]))) := ⟨_, rfl⟩
                            have hP : hv_P D classes s0.heap.size w83 H := by rw [ew83]; exact hP
                            have hM : mK ca K w0 ((((mAo t9 k9 p9 σ).sThrown 1).sTapeSize 0).sError 9) B w83 := by rw [ew83]; exact hM.put 0 (by decide) rfl
                            have h84 : w83 (K 0) = some (.inr (7, [.int 1, .ref (K 1), .ref (K 2), .ref (K 3), .ref (K 4), .ref (K 5), .ref (K 6), .ref (K 7), .ref (K 8), .ref (K 9), .ref (K 10), .ref (K 11), .ref (K 12), .int 0, .ref (K 13), .int 9, .int (σ.off), .int (σ.ins), .int (nI (σ.sc)), .int (nI (σ.ec)), .int (nI (σ.en)), .int (σ.tr), .int (nI (σ.lo)), .int (σ.wr), .int (nI (σ.due))])) := by rw [ew83]; exact hv_up_s
                            refine lv_iload hx hb d_Model_property_298 (lv_at hl 0 rfl) ?_
                            refine lv_if_ne (tgt := 312) hx hb d_Model_property_300 (by decide) (fun c300 => ?_) (fun c300 => ?_)
                            · refine lv_iconst (v := 0) hx hb d_Model_property_312 (by decide) ?_
                              exact hv_zret (v := 0) hQ hx hb hr (by decide) hZ hS hP hlocks d_Model_property_313 (mRet.of (r' := (((σ.sTape []).sErr 9), 1, 0)) (by rw [x_property, cif_pos c4, hf]; dsimp only; rw [cif_pos hok, cif_neg c105, cif_pos c78, x_put, cif_neg (fun z => absurd (hpk.symm.trans z) (by decide)), cif_neg (fun z => absurd (hpk.symm.trans z) (by decide)), cif_pos (show 249 ≤ (σ.sTape []).ec + (σ.sTape []).sc from h249)]) (fun z9 => absurd z9 (show ¬ (1 : Nat) = 0 by decide)) hM (((hRel.err 9).thr 1).tape0) rfl)
                            · exact absurd c300 (by decide)
                        · exact absurd c191 (by decide)
              · exact absurd (c78.symm.trans c105) (by decide)
        · have hgl := g_look_posn hg
          rw [show m_pos i t.ps y = -1 by rw [m_pos, if_neg hg]]
          show W _ _ _ _ _ _ _ _ _ _ _ _ _ _ _ (F0 m 73 ls [.int ((-1))])
          refine lv_istore (lv' := [(9, .int ((-1))), (8, .int 0), (7, .int (nI i)), (0, .ref (K 0)), (1, .int k), (2, .int n), (3, .int y), (4, .int kd), (5, .long x)]) hx hb d_Model_property_73 hl (by decide) rfl (fun ls hl => ?_)
          refine lv_iload hx hb d_Model_property_75 (lv_at hl 7 rfl) ?_
          refine lv_iconst (v := 3) hx hb d_Model_property_77 (by decide) ?_
          refine lv_icmp_ne (tgt := 89) hx hb d_Model_property_78 (by decide) (fun c78 => ?_) (fun c78 => ?_)
          · refine lv_lload hx hb d_Model_property_89 (lv_at hl 8 rfl) ?_
            refine lv_lstore (lv' := [(10, .long x), (9, .int ((-1))), (8, .int 0), (7, .int (nI i)), (0, .ref (K 0)), (1, .int k), (2, .int n), (3, .int y), (4, .int kd), (5, .long x)]) hx hb d_Model_property_91 hl (by decide) rfl (fun ls hl => ?_)
            refine lv_iload hx hb d_Model_property_93 (lv_at hl 3 rfl) ?_
            refine gk_if_lt (x := i) (tgt := 138) hx hb d_Model_property_95 (by decide) (by omega) ?_
            refine lv_iload hx hb d_Model_property_98 (lv_at hl 2 rfl) ?_
            refine lv_if_ne (tgt := 138) hx hb d_Model_property_100 (by decide) (fun c100 => ?_) (fun c100 => ?_)
            · exact absurd c100 (by decide)
            · refine lv_iload hx hb d_Model_property_103 (lv_at hl 8 rfl) ?_
              refine lv_if_ne (tgt := 116) hx hb d_Model_property_105 (by decide) (fun c105 => ?_) (fun c105 => ?_)
              · refine lv_iload hx hb d_Model_property_116 (lv_at hl 1 rfl) ?_
                refine lv_if_lt (tgt := 134) hx hb d_Model_property_118 (by decide) (fun c118 => ?_) (fun c118 => ?_)
                · refine lv_iconst (v := 1) hx hb d_Model_property_134 (by decide) ?_
                  refine lv_goto (tgt := 139) hx hb d_Model_property_135 (by decide) ?_
                  refine lv_istore (lv' := [(12, .int 1), (10, .long x), (9, .int ((-1))), (8, .int 0), (7, .int (nI i)), (0, .ref (K 0)), (1, .int k), (2, .int n), (3, .int y), (4, .int kd), (5, .long x)]) hx hb d_Model_property_139 hl (by decide) rfl (fun ls hl => ?_)
                  refine lv_aload_n hx hb d_Model_property_141 rfl (lv_at hl 5 rfl) ?_
                  refine lv_iload hx hb d_Model_property_142 (lv_at hl 4 rfl) ?_
                  refine gk_if_ge (x := i) (tgt := 151) hx hb d_Model_property_144 (by decide) (by omega) ?_
                  refine lv_iconst (v := 0) hx hb d_Model_property_151 (by decide) ?_
                  refine lv_iload hx hb d_Model_property_152 (lv_at hl 3 rfl) ?_
                  refine lv_iconst (v := 0) hx hb d_Model_property_154 (by decide) ?_
                  refine lv_iload hx hb d_Model_property_155 (lv_at hl 0 rfl) ?_
                  refine lv_if_eq (tgt := 181) hx hb d_Model_property_157 (by decide) (fun c157 => ?_) (fun c157 => ?_)
                  · exact absurd c157 (by decide)
                  · refine lv_iload hx hb d_Model_property_160 (lv_at hl 2 rfl) ?_
                    refine lv_if_ge (tgt := 181) hx hb d_Model_property_162 (by decide) (fun c162 => ?_) (fun c162 => ?_)
                    · exact absurd c162 (by decide)
                    · refine lv_aload_n hx hb d_Model_property_165 rfl (lv_at hl 5 rfl) ?_
                      refine va_get (D := D) (ci := 7) (v := .ref (K 7)) (C := R_Model) (T := F_Model) (N := 25) hx hb hts i_Model hown hK (hv_one hP h1) 0 rfl rfl 7 (by decide) (hts _ k_Model_29) (fun _ h9 => h9) rfl d_Model_property_166 ?_
                      refine lv_iload hx hb d_Model_property_169 (lv_at hl 4 rfl) ?_
                      have h85 : w (K 7) = some (.inl (ca 0, 640, .inl B.propertyMany)) := hM.1.2 7 (by decide)
                      refine va_iald hx hb hK (hv_one hP h85) 0 0 rfl rfl (vp_in_nI (n := i) (by omega) (by omega)) d_Model_property_171 ?_
                      rw [nI_clamp (n := i) (by omega)]
                      refine lv_topi (fun v9 e9 => ?_)
                      have e9 : v9 = nI t.ps.length := e9.trans (hat9.2.1.1)
                      subst e9
                      show W _ _ _ _ _ _ _ _ _ _ _ _ _ _ _ (F0 m 172 ls [.int (nI t.ps.length), .int 0, .int 0, .int 0, .ref (K 0)])
                      refine lv_bipush (v := 6) hx hb d_Model_property_172 (by decide) ?_
                      refine gk_icmp_ne (x := t.ps.length) (y := 6) (tgt := 181) hx hb d_Model_property_174 (by decide) (by omega) (by omega) (fun c174 => ?_) (fun c174 => ?_)
                      · have hpk : x_pk t.ps (y, kd, x, []) = 2 := by rw [x_pk_n hgl]; exact if_neg (by have := hw.2.2.1; omega)
                        have hl5 : t.ps.length < 6 := by have := hw.2.2.1; omega
                        refine lv_iconst (v := 0) hx hb d_Model_property_181 (by decide) ?_
                        refine lv_iload hx hb d_Model_property_182 (lv_at hl 0 rfl) ?_
                        refine hv_call (hv_runV (As := [.int 0, .int 0, .int 0, .int 0, .int 1]) (rest := []) (c_Model_fails C 0 0 0 0 1 hM (by show σ.ec + σ.sc ≤ 249; omega)) (hv_cw C hZ kc_Model_fails kn_Model ⟨rfl, rfl, Nat.le_of_ble_eq_true rfl, Nat.le_of_ble_eq_true rfl⟩) hv_blind (hv_pre hZ hS hP) hx hml hb hown (hts _ k_Model_116) (hts _ ki_Model_fails) (hts _ ksel_Model_Model_fails) hy_Model_fails (hts _ kc_Model_fails) (va_recv hK (hv_one hP h1) (ci := 7) (q0 := 0) rfl rfl) rfl hl.1 rfl (lv_room (Nat.le_of_ble_eq_true rfl)) d_Model_property_184 ⟨Nat.le_of_ble_eq_true rfl, Nat.le_of_ble_eq_true rfl⟩) hZ hS (fun v9 w86 H locs q87 hP hS => ?_) (fun x9 w86 H locs q87 hP hS => q87.elim)
                        rcases q87 with ⟨ho9, hv9, hM⟩ | ⟨ho9, he9, hv9, hM⟩ | ⟨ho9, he9, hv9, hM⟩
                        · exact absurd c4 ho9
                        · have h249 : ¬ 249 ≤ σ.ec + σ.sc := fun z9 => by rw [m_fe, if_neg (by decide), if_neg (by decide), if_neg (by decide), if_neg (by decide), if_pos ⟨by decide, show σ.ec + σ.sc = 249 by omega⟩] at he9; exact absurd he9 (by decide)
                          subst hv9
                          show W _ _ _ _ _ _ _ _ _ _ _ _ _ _ _ (F0 m 187 ls [.int 0])
                          refine lv_istore (lv' := [(13, .int 0), (12, .int 1), (10, .long x), (9, .int ((-1))), (8, .int 0), (7, .int (nI i)), (0, .ref (K 0)), (1, .int k), (2, .int n), (3, .int y), (4, .int kd), (5, .long x)]) hx hb d_Model_property_187 hl (by decide) rfl (fun ls hl => ?_)
                          refine lv_iload hx hb d_Model_property_189 (lv_at hl 0 rfl) ?_
                          refine lv_if_ne (tgt := 275) hx hb d_Model_property_191 (by decide) (fun c191 => ?_) (fun c191 => ?_)
                          · exact absurd c191 (by decide)
                          · refine lv_iload hx hb d_Model_property_194 (lv_at hl 1 rfl) ?_
                            refine lv_if_eq (tgt := 275) hx hb d_Model_property_196 (by decide) (fun c196 => ?_) (fun c196 => ?_)
                            · exact absurd c196 (by decide)
                            · refine lv_aload_n hx hb d_Model_property_199 rfl (lv_at hl 6 rfl) ?_
                              have h88 : w86 (K 0) = some (.inr (7, [.int 0, .ref (K 1), .ref (K 2), .ref (K 3), .ref (K 4), .ref (K 5), .ref (K 6), .ref (K 7), .ref (K 8), .ref (K 9), .ref (K 10), .ref (K 11), .ref (K 12), .int (nI (σ.tape.length)), .ref (K 13), .int (σ.err), .int (σ.off), .int (σ.ins), .int (nI (σ.sc)), .int (nI (σ.ec)), .int (nI (σ.en)), .int (σ.tr), .int (nI (σ.lo)), .int (σ.wr), .int (nI (σ.due))])) := hM.1.2 0 (by decide)
                              refine hv_call (hv_runV (As := []) (rest := []) (c_Model_begins C hM (hRel.thr 0) hW c4) (hv_cw C hZ kc_Model_begins kn_Model ⟨rfl, rfl, Nat.le_of_ble_eq_true rfl, Nat.le_of_ble_eq_true rfl⟩) hv_blind (hv_pre hZ hS hP) hx hml hb hown (hts _ k_Model_120) (hts _ ki_Model_begins) (hts _ ksel_Model_Model_begins) hy_Model_begins (hts _ kc_Model_begins) (va_recv hK (hv_one hP h88) (ci := 7) (q0 := 0) rfl rfl) rfl hl.1 rfl (lv_room (Nat.le_of_ble_eq_true rfl)) d_Model_property_200 ⟨Nat.le_of_ble_eq_true rfl, Nat.le_of_ble_eq_true rfl⟩) hZ hS (fun v9 w89 H locs q90 hP hS => ?_) (fun x9 w89 H locs q90 hP hS => q90.elim)
                              obtain ⟨hv9, B2, hM, hRel2⟩ := q90
                              subst hv9
                              have hM : mK ca K w0 (((mAo t9 k9 p9 σ).sThrown 0).sChanges (σ.sc + 1)) B2 w89 := hM
                              have hRel2 : mRel (((mAo t9 k9 p9 σ).sThrown 0).sChanges (σ.sc + 1)) B2 (σ.sSc (σ.sc + 1)) := hRel2
                              show W _ _ _ _ _ _ _ _ _ _ _ _ _ _ _ (F0 m 203 ls [])
                              have hT2 : mT B2 i i (some t) := by have z9 := mG0 hRel2.1.1 hi; rw [show (σ.sSc (σ.sc + 1)).now i = some t from ht] at z9; exact z9
                              have hl69 : t.ps.length ≤ 6 := hw.2.2.1
                              refine lv_iload hx hb d_Model_property_203 (lv_at hl 10 rfl) ?_
                              refine lv_if_ne (tgt := 219) hx hb d_Model_property_205 (by decide) (fun c205 => ?_) (fun c205 => ?_)
                              · refine lv_iload hx hb d_Model_property_219 (lv_at hl 3 rfl) ?_
                                refine lv_if_ge (tgt := 240) hx hb d_Model_property_221 (by decide) (fun c221 => ?_) (fun c221 => ?_)
                                · exact absurd c221 (by decide)
                                · refine lv_bipush (v := 6) hx hb d_Model_property_224 (by decide) ?_
                                  refine lv_iload hx hb d_Model_property_226 (lv_at hl 5 rfl) ?_
                                  refine gk_imul (x := 6) (y := i) hx hb d_Model_property_228 ?_
                                  refine lv_aload_n hx hb d_Model_property_229 rfl (lv_at hl 6 rfl) ?_
                                  have h91 : w89 (K 0) = some (.inr (7, [.int 0, .ref (K 1), .ref (K 2), .ref (K 3), .ref (K 4), .ref (K 5), .ref (K 6), .ref (K 7), .ref (K 8), .ref (K 9), .ref (K 10), .ref (K 11), .ref (K 12), .int (nI (σ.tape.length)), .ref (K 13), .int (σ.err), .int (σ.off), .int (σ.ins), .int (nI (σ.sc + 1)), .int (nI (σ.ec)), .int (nI (σ.en)), .int (σ.tr), .int (nI (σ.lo)), .int (σ.wr), .int (nI (σ.due))])) := hM.1.2 0 (by decide)
                                  refine va_get (D := D) (ci := 7) (v := .ref (K 7)) (C := R_Model) (T := F_Model) (N := 25) hx hb hts i_Model hown hK (hv_one hP h91) 0 rfl rfl 7 (by decide) (hts _ k_Model_29) (fun _ h9 => h9) rfl d_Model_property_230 ?_
                                  refine lv_iload hx hb d_Model_property_233 (lv_at hl 5 rfl) ?_
                                  have h92 : w89 (K 7) = some (.inl (ca 0, 640, .inl B2.propertyMany)) := hM.1.2 7 (by decide)
                                  refine va_iald hx hb hK (hv_one hP h92) 0 0 rfl rfl (vp_in_nI (n := i) (by omega) (by omega)) d_Model_property_235 ?_
                                  rw [nI_clamp (n := i) (by omega)]
                                  refine lv_topi (fun v9 e9 => ?_)
                                  have e9 : v9 = nI t.ps.length := e9.trans (hT2.2.1.1)
                                  subst e9
                                  show W _ _ _ _ _ _ _ _ _ _ _ _ _ _ _ (F0 m 236 ls [.int (nI t.ps.length), .int (nI (6 * i))])
                                  refine gk_iadd (x := 6 * i) (y := t.ps.length) hx hb d_Model_property_236 ?_
                                  refine lv_goto (tgt := 242) hx hb d_Model_property_237 (by decide) ?_
                                  refine lv_istore (lv' := [(14, .int (nI ((6 * i) + t.ps.length))), (13, .int 0), (12, .int 1), (10, .long x), (9, .int ((-1))), (8, .int 0), (7, .int (nI i)), (0, .ref (K 0)), (1, .int k), (2, .int n), (3, .int y), (4, .int kd), (5, .long x)]) hx hb d_Model_property_242 hl (by decide) rfl (fun ls hl => ?_)
                                  refine lv_aload_n hx hb d_Model_property_244 rfl (lv_at hl 7 rfl) ?_
                                  refine va_get (D := D) (ci := 7) (v := .ref (K 7)) (C := R_Model) (T := F_Model) (N := 25) hx hb hts i_Model hown hK (hv_one hP h91) 0 rfl rfl 7 (by decide) (hts _ k_Model_29) (fun _ h9 => h9) rfl d_Model_property_245 ?_
                                  refine lv_iload hx hb d_Model_property_248 (lv_at hl 6 rfl) ?_
                                  refine lv_dup2_11 hx hb d_Model_property_250 rfl rfl ?_
                                  refine va_iald hx hb hK (hv_one hP h92) 0 0 rfl rfl (vp_in_nI (n := i) (by omega) (by omega)) d_Model_property_251 ?_
                                  rw [nI_clamp (n := i) (by omega)]
                                  refine lv_topi (fun v9 e9 => ?_)
                                  have e9 : v9 = nI t.ps.length := e9.trans (hT2.2.1.1)
                                  subst e9
                                  show W _ _ _ _ _ _ _ _ _ _ _ _ _ _ _ (F0 m 252 ls [.int (nI t.ps.length), .int (nI i), .ref (K 7)])
                                  refine lv_iload hx hb d_Model_property_252 (lv_at hl 4 rfl) ?_
                                  refine lv_if_ge (tgt := 261) hx hb d_Model_property_254 (by decide) (fun c254 => ?_) (fun c254 => ?_)
                                  · exact absurd c254 (by decide)
                                  · refine lv_iconst (v := 1) hx hb d_Model_property_257 (by decide) ?_
                                    refine lv_goto (tgt := 262) hx hb d_Model_property_258 (by decide) ?_
                                    refine gk_iadd (x := t.ps.length) (y := 1) hx hb d_Model_property_262 ?_
                                    refine hv_iast hx hb hK hP hS 0 h92 rfl (vp_in_nI (n := i) (by omega) (by omega)) d_Model_property_263 (fun H locs hP hS => ?_)
                                    rw [nI_clamp (n := i) (by omega)] at hP
                                    obtain ⟨w93, ew93⟩ : ∃ z9 : hv_W, z9 = va_up w89 (K 7) (some (.inl (ca 0, 640, .inl (upd B2.propertyMany i ((nI (t.ps.length + 1))))))) := ⟨_, rfl⟩
                                    have hP : hv_P D classes s0.heap.size w93 H := by rw [ew93]; exact hP
                                    have hM : mK ca K w0 (((mAo t9 k9 p9 σ).sThrown 0).sChanges (σ.sc + 1)) (B2.sPropertyMany (upd B2.propertyMany i ((nI (t.ps.length + 1))))) w93 := by rw [ew93]; exact hM.put 7 (by decide) rfl
                                    have h94 : w93 (K 7) = some (.inl (ca 0, 640, .inl (upd B2.propertyMany i ((nI (t.ps.length + 1)))))) := by rw [ew93]; exact hv_up_s
                                    refine lv_aload_n hx hb d_Model_property_264 rfl (lv_at hl 7 rfl) ?_
                                    refine lv_iload hx hb d_Model_property_265 (lv_at hl 0 rfl) ?_
                                    refine lv_iload_n hx hb d_Model_property_267 rfl (lv_at hl 10 rfl) ?_
                                    refine lv_iload hx hb d_Model_property_268 (lv_at hl 11 rfl) ?_
                                    refine lv_lload hx hb d_Model_property_270 (lv_at hl 3 rfl) ?_
                                    have h95 : w93 (K 0) = some (.inr (7, [.int 0, .ref (K 1), .ref (K 2), .ref (K 3), .ref (K 4), .ref (K 5), .ref (K 6), .ref (K 7), .ref (K 8), .ref (K 9), .ref (K 10), .ref (K 11), .ref (K 12), .int (nI (σ.tape.length)), .ref (K 13), .int (σ.err), .int (σ.off), .int (σ.ins), .int (nI (σ.sc + 1)), .int (nI (σ.ec)), .int (nI (σ.en)), .int (σ.tr), .int (nI (σ.lo)), .int (σ.wr), .int (nI (σ.due))])) := hM.1.2 0 (by decide)
                                    refine hv_call (hv_runV (As := [.int (nI ((6 * i) + t.ps.length)), .int y, .int kd, .long x]) (rest := []) (c_Model_lay C y kd x (q := 6 * i + t.ps.length) (by omega) hM) (hv_cw C hZ kc_Model_lay kn_Model ⟨rfl, rfl, Nat.le_of_ble_eq_true rfl, Nat.le_of_ble_eq_true rfl⟩) hv_blind (hv_pre hZ hS hP) hx hml hb hown (hts _ k_Model_140) (hts _ ki_Model_lay) (hts _ ksel_Model_Model_lay) hy_Model_lay (hts _ kc_Model_lay) (va_recv hK (hv_one hP h95) (ci := 7) (q0 := 0) rfl rfl) rfl hl.1 rfl (lv_room (Nat.le_of_ble_eq_true rfl)) d_Model_property_272 ⟨Nat.le_of_ble_eq_true rfl, Nat.le_of_ble_eq_true rfl⟩) hZ hS (fun v9 w96 H locs q97 hP hS => ?_) (fun x9 w96 H locs q97 hP hS => q97.elim)
                                    obtain ⟨hv9, g, hM, hg1, hg2⟩ := q97
                                    subst hv9
                                    have hM : mK ca K w0 (((mAo t9 k9 p9 σ).sThrown 0).sChanges (σ.sc + 1)) (mLaid B2 (upd B2.propertyMany i (nI (t.ps.length + 1))) (6 * i + t.ps.length) y kd x g) w96 := hM
                                    have hg2 : ∀ j, (j < 3 * (6 * i + t.ps.length) ∨ 3 * (6 * i + t.ps.length) + 3 ≤ j) → g j = B2.texts j := hg2
                                    show W _ _ _ _ _ _ _ _ _ _ _ _ _ _ _ (F0 m 275 ls [])
                                    refine lv_aload_n hx hb d_Model_property_275 rfl (lv_at hl 7 rfl) ?_
                                    refine lv_iload hx hb d_Model_property_276 (lv_at hl 11 rfl) ?_
                                    refine lv_iconst (v := 3) hx hb d_Model_property_278 (by decide) ?_
                                    refine lv_icmp_ne (tgt := 291) hx hb d_Model_property_279 (by decide) (fun c279 => ?_) (fun c279 => ?_)
                                    · refine lv_aload_n hx hb d_Model_property_291 rfl (lv_at hl 7 rfl) ?_
                                      have h98 : w96 (K 0) = some (.inr (7, [.int 0, .ref (K 1), .ref (K 2), .ref (K 3), .ref (K 4), .ref (K 5), .ref (K 6), .ref (K 7), .ref (K 8), .ref (K 9), .ref (K 10), .ref (K 11), .ref (K 12), .int (nI (σ.tape.length)), .ref (K 13), .int (σ.err), .int (σ.off), .int (σ.ins), .int (nI (σ.sc + 1)), .int (nI (σ.ec)), .int (nI (σ.en)), .int (σ.tr), .int (nI (σ.lo)), .int (σ.wr), .int (nI (σ.due))])) := hM.1.2 0 (by decide)
                                      refine va_get (D := D) (ci := 7) (v := .int (nI (σ.tape.length))) (C := R_Model) (T := F_Model) (N := 25) hx hb hts i_Model hown hK (hv_one hP h98) 0 rfl rfl 13 (by decide) (hts _ k_Model_103) (fun _ h9 => h9) rfl d_Model_property_292 ?_
                                      refine hv_put (D := D) (ci := 7) (v := .int (nI (σ.tape.length))) (ty := .int) (C := R_Model) (T := F_Model) (N := 25) hx hb hts i_Model t_Model t_Model_ok n_Model hown hK hP hS h98 rfl 13 (by decide) (hts _ k_Model_103) (fun _ h9 => h9) rfl (by decide +kernel) rfl rfl (Nat.le_of_ble_eq_true rfl) d_Model_property_295 (fun H locs hP hS => ?_)
                                      obtain ⟨w99, ew99⟩ : ∃ z9 : hv_W, z9 = va_up w96 (K 0) (some (.inr (7, [.int 0, .ref (K 1), .ref (K 2), .ref (K 3), .ref (K 4), .ref (K 5), .ref (K 6), .ref (K 7), .ref (K 8), .ref (K 9), .ref (K 10), .ref (K 11), .ref (K 12), .int (nI (σ.tape.length)), .ref (K 13), .int (σ.err), .int (σ.off), .int (σ.ins), .int (nI (σ.sc + 1)), .int (nI (σ.ec)), .int (nI (σ.en)), .int (σ.tr), .int (nI (σ.lo)), .int (σ.wr), .int (nI (σ.due))]))) := ⟨_, rfl⟩
                                      have hP : hv_P D classes s0.heap.size w99 H := by rw [ew99]; exact hP
                                      have hM : mK ca K w0 (((mAo t9 k9 p9 σ).sThrown 0).sChanges (σ.sc + 1)) (mLaid B2 (upd B2.propertyMany i (nI (t.ps.length + 1))) (6 * i + t.ps.length) y kd x g) w99 := by rw [ew99]; exact hM.put 0 (by decide) rfl
                                      have h100 : w99 (K 0) = some (.inr (7, [.int 0, .ref (K 1), .ref (K 2), .ref (K 3), .ref (K 4), .ref (K 5), .ref (K 6), .ref (K 7), .ref (K 8), .ref (K 9), .ref (K 10), .ref (K 11), .ref (K 12), .int (nI (σ.tape.length)), .ref (K 13), .int (σ.err), .int (σ.off), .int (σ.ins), .int (nI (σ.sc + 1)), .int (nI (σ.ec)), .int (nI (σ.en)), .int (σ.tr), .int (nI (σ.lo)), .int (σ.wr), .int (nI (σ.due))])) := by rw [ew99]; exact hv_up_s
                                      refine lv_iload hx hb d_Model_property_298 (lv_at hl 1 rfl) ?_
                                      refine lv_if_ne (tgt := 312) hx hb d_Model_property_300 (by decide) (fun c300 => ?_) (fun c300 => ?_)
                                      · exact absurd c300 (by decide)
                                      · refine lv_iload hx hb d_Model_property_303 (lv_at hl 2 rfl) ?_
                                        refine lv_if_eq (tgt := 312) hx hb d_Model_property_305 (by decide) (fun c305 => ?_) (fun c305 => ?_)
                                        · exact absurd c305 (by decide)
                                        · refine lv_iconst (v := 1) hx hb d_Model_property_308 (by decide) ?_
                                          refine lv_goto (tgt := 313) hx hb d_Model_property_309 (by decide) ?_
                                          exact hv_zret (v := 1) hQ hx hb hr (by decide) hZ hS hP hlocks d_Model_property_313 (mRet.of (r' := ((x_one σ i (some (t.sPs (g_put t.ps (y, kd, x, []))))), 0, 1)) (by rw [x_property, cif_pos c4, hf]; dsimp only; rw [cif_pos hok, cif_neg c105, cif_neg c78, x_put, cif_neg (fun z => absurd (hpk.symm.trans z) (by decide)), cif_neg (fun z => absurd (hpk.symm.trans z) (by decide)), cif_neg (show ¬ 249 ≤ σ.ec + σ.sc from h249)]) (fun _ => rfl) hM ((hRel2.set hW.1 hi (o := some (t.sPs (g_put t.ps (y, kd, x, [])))) (fun j hj => mEq_laid hj hl5 (fun j9 hj9 => pk_un hj9) hg2) (by rw [g_put_app hg]; exact mT_ps hT2 hl5 hw (by rw [List.length_append, List.length_singleton]; omega) (by rw [pk_us, List.length_append]; rfl) ps_app1 ps_app2 (fun k9 hk9 => absurd hk9 (Nat.not_lt_zero _)) hg2) (Or.inr hT2.1)).tp rfl) rfl)
                                    · exact absurd c279 c78
                              · exact absurd c205 c105
                        · have h249 : 249 ≤ σ.ec + σ.sc := Classical.byContradiction fun z9 => he9 (by rw [m_fe, if_neg (by decide), if_neg (by decide), if_neg (by decide), if_neg (by decide), if_neg (fun z8 => z9 (by have h8 : σ.ec + σ.sc = 249 := z8.2; omega))])
                          rw [show m_fe (mAo t9 k9 p9 σ).earlier (mAo t9 k9 p9 σ).changes 0 0 0 0 1 = 9 by rw [m_fe, if_neg (by decide), if_neg (by decide), if_neg (by decide), if_neg (by decide), if_pos ⟨by decide, show σ.ec + σ.sc = 249 by omega⟩]] at hM
                          subst hv9
                          show W _ _ _ _ _ _ _ _ _ _ _ _ _ _ _ (F0 m 187 ls [.int 1])
                          refine lv_istore (lv' := [(13, .int 1), (12, .int 1), (10, .long x), (9, .int ((-1))), (8, .int 0), (7, .int (nI i)), (0, .ref (K 0)), (1, .int k), (2, .int n), (3, .int y), (4, .int kd), (5, .long x)]) hx hb d_Model_property_187 hl (by decide) rfl (fun ls hl => ?_)
                          refine lv_iload hx hb d_Model_property_189 (lv_at hl 0 rfl) ?_
                          refine lv_if_ne (tgt := 275) hx hb d_Model_property_191 (by decide) (fun c191 => ?_) (fun c191 => ?_)
                          · refine lv_aload_n hx hb d_Model_property_275 rfl (lv_at hl 6 rfl) ?_
                            refine lv_iload hx hb d_Model_property_276 (lv_at hl 10 rfl) ?_
                            refine lv_iconst (v := 3) hx hb d_Model_property_278 (by decide) ?_
                            refine lv_icmp_ne (tgt := 291) hx hb d_Model_property_279 (by decide) (fun c279 => ?_) (fun c279 => ?_)
                            · refine lv_aload_n hx hb d_Model_property_291 rfl (lv_at hl 6 rfl) ?_
                              have h101 : w86 (K 0) = some (.inr (7, [.int 1, .ref (K 1), .ref (K 2), .ref (K 3), .ref (K 4), .ref (K 5), .ref (K 6), .ref (K 7), .ref (K 8), .ref (K 9), .ref (K 10), .ref (K 11), .ref (K 12), .int (nI (σ.tape.length)), .ref (K 13), .int 9, .int (σ.off), .int (σ.ins), .int (nI (σ.sc)), .int (nI (σ.ec)), .int (nI (σ.en)), .int (σ.tr), .int (nI (σ.lo)), .int (σ.wr), .int (nI (σ.due))])) := hM.1.2 0 (by decide)
                              refine va_get (D := D) (ci := 7) (v := .int (nI (σ.tape.length))) (C := R_Model) (T := F_Model) (N := 25) hx hb hts i_Model hown hK (hv_one hP h101) 0 rfl rfl 13 (by decide) (hts _ k_Model_103) (fun _ h9 => h9) rfl d_Model_property_292 ?_
                              refine hv_put (D := D) (ci := 7) (v := .int (nI (σ.tape.length))) (ty := .int) (C := R_Model) (T := F_Model) (N := 25) hx hb hts i_Model t_Model t_Model_ok n_Model hown hK hP hS h101 rfl 13 (by decide) (hts _ k_Model_103) (fun _ h9 => h9) rfl (by decide +kernel) rfl rfl (Nat.le_of_ble_eq_true rfl) d_Model_property_295 (fun H locs hP hS => ?_)
                              obtain ⟨w102, ew102⟩ : ∃ z9 : hv_W, z9 = va_up w86 (K 0) (some (.inr (7, [.int 1, .ref (K 1), .ref (K 2), .ref (K 3), .ref (K 4), .ref (K 5), .ref (K 6), .ref (K 7), .ref (K 8), .ref (K 9), .ref (K 10), .ref (K 11), .ref (K 12), .int (nI (σ.tape.length)), .ref (K 13), .int 9, .int (σ.off), .int (σ.ins), .int (nI (σ.sc)), .int (nI (σ.ec)), .int (nI (σ.en)), .int (σ.tr), .int (nI (σ.lo)), .int (σ.wr), .int (nI (σ.due))]))) := ⟨_, rfl⟩
                              have hP : hv_P D classes s0.heap.size w102 H := by rw [ew102]; exact hP
                              have hM : mK ca K w0 (((mAo t9 k9 p9 σ).sThrown 1).sError 9) B w102 := by rw [ew102]; exact hM.put 0 (by decide) rfl
                              have h103 : w102 (K 0) = some (.inr (7, [.int 1, .ref (K 1), .ref (K 2), .ref (K 3), .ref (K 4), .ref (K 5), .ref (K 6), .ref (K 7), .ref (K 8), .ref (K 9), .ref (K 10), .ref (K 11), .ref (K 12), .int (nI (σ.tape.length)), .ref (K 13), .int 9, .int (σ.off), .int (σ.ins), .int (nI (σ.sc)), .int (nI (σ.ec)), .int (nI (σ.en)), .int (σ.tr), .int (nI (σ.lo)), .int (σ.wr), .int (nI (σ.due))])) := by rw [ew102]; exact hv_up_s
                              refine lv_iload hx hb d_Model_property_298 (lv_at hl 0 rfl) ?_
                              refine lv_if_ne (tgt := 312) hx hb d_Model_property_300 (by decide) (fun c300 => ?_) (fun c300 => ?_)
                              · refine lv_iconst (v := 0) hx hb d_Model_property_312 (by decide) ?_
                                exact hv_zret (v := 0) hQ hx hb hr (by decide) hZ hS hP hlocks d_Model_property_313 (mRet.of (r' := ((σ.sErr 9), 1, 0)) (by rw [x_property, cif_pos c4, hf]; dsimp only; rw [cif_pos hok, cif_neg c105, cif_neg c78, x_put, cif_neg (fun z => absurd (hpk.symm.trans z) (by decide)), cif_neg (fun z => absurd (hpk.symm.trans z) (by decide)), cif_pos (show 249 ≤ σ.ec + σ.sc from h249)]) (fun z9 => absurd z9 (show ¬ (1 : Nat) = 0 by decide)) hM (((hRel.err 9).thr 1).tp rfl) rfl)
                              · exact absurd c300 (by decide)
                            · exact absurd c279 c78
                          · exact absurd c191 (by decide)
                      · have hpk : x_pk t.ps (y, kd, x, []) = 1 := by rw [x_pk_n hgl]; exact if_pos (by omega)
                        refine lv_iconst (v := 1) hx hb d_Model_property_177 (by decide) ?_
                        refine lv_goto (tgt := 182) hx hb d_Model_property_178 (by decide) ?_
                        refine lv_iload hx hb d_Model_property_182 (lv_at hl 0 rfl) ?_
                        refine hv_call (hv_runV (As := [.int 0, .int 0, .int 0, .int 1, .int 1]) (rest := []) (c_Model_fails C 0 0 0 1 1 hM (by show σ.ec + σ.sc ≤ 249; omega)) (hv_cw C hZ kc_Model_fails kn_Model ⟨rfl, rfl, Nat.le_of_ble_eq_true rfl, Nat.le_of_ble_eq_true rfl⟩) hv_blind (hv_pre hZ hS hP) hx hml hb hown (hts _ k_Model_116) (hts _ ki_Model_fails) (hts _ ksel_Model_Model_fails) hy_Model_fails (hts _ kc_Model_fails) (va_recv hK (hv_one hP h1) (ci := 7) (q0 := 0) rfl rfl) rfl hl.1 rfl (lv_room (Nat.le_of_ble_eq_true rfl)) d_Model_property_184 ⟨Nat.le_of_ble_eq_true rfl, Nat.le_of_ble_eq_true rfl⟩) hZ hS (fun v9 w104 H locs q105 hP hS => ?_) (fun x9 w104 H locs q105 hP hS => q105.elim)
                        rcases q105 with ⟨ho9, hv9, hM⟩ | ⟨ho9, he9, hv9, hM⟩ | ⟨ho9, he9, hv9, hM⟩
                        · exact absurd c4 ho9
                        · exact absurd ((show m_fe (mAo t9 k9 p9 σ).earlier (mAo t9 k9 p9 σ).changes 0 0 0 1 1 = 6 by rw [m_fe, if_neg (by decide), if_neg (by decide), if_neg (by decide), if_pos (by decide)]).symm.trans he9) (by decide)
                        · rw [show m_fe (mAo t9 k9 p9 σ).earlier (mAo t9 k9 p9 σ).changes 0 0 0 1 1 = 6 by rw [m_fe, if_neg (by decide), if_neg (by decide), if_neg (by decide), if_pos (by decide)]] at hM
                          subst hv9
                          show W _ _ _ _ _ _ _ _ _ _ _ _ _ _ _ (F0 m 187 ls [.int 1])
                          refine lv_istore (lv' := [(13, .int 1), (12, .int 1), (10, .long x), (9, .int ((-1))), (8, .int 0), (7, .int (nI i)), (0, .ref (K 0)), (1, .int k), (2, .int n), (3, .int y), (4, .int kd), (5, .long x)]) hx hb d_Model_property_187 hl (by decide) rfl (fun ls hl => ?_)
                          refine lv_iload hx hb d_Model_property_189 (lv_at hl 0 rfl) ?_
                          refine lv_if_ne (tgt := 275) hx hb d_Model_property_191 (by decide) (fun c191 => ?_) (fun c191 => ?_)
                          · refine lv_aload_n hx hb d_Model_property_275 rfl (lv_at hl 6 rfl) ?_
                            refine lv_iload hx hb d_Model_property_276 (lv_at hl 10 rfl) ?_
                            refine lv_iconst (v := 3) hx hb d_Model_property_278 (by decide) ?_
                            refine lv_icmp_ne (tgt := 291) hx hb d_Model_property_279 (by decide) (fun c279 => ?_) (fun c279 => ?_)
                            · refine lv_aload_n hx hb d_Model_property_291 rfl (lv_at hl 6 rfl) ?_
                              have h106 : w104 (K 0) = some (.inr (7, [.int 1, .ref (K 1), .ref (K 2), .ref (K 3), .ref (K 4), .ref (K 5), .ref (K 6), .ref (K 7), .ref (K 8), .ref (K 9), .ref (K 10), .ref (K 11), .ref (K 12), .int (nI (σ.tape.length)), .ref (K 13), .int 6, .int (σ.off), .int (σ.ins), .int (nI (σ.sc)), .int (nI (σ.ec)), .int (nI (σ.en)), .int (σ.tr), .int (nI (σ.lo)), .int (σ.wr), .int (nI (σ.due))])) := hM.1.2 0 (by decide)
                              refine va_get (D := D) (ci := 7) (v := .int (nI (σ.tape.length))) (C := R_Model) (T := F_Model) (N := 25) hx hb hts i_Model hown hK (hv_one hP h106) 0 rfl rfl 13 (by decide) (hts _ k_Model_103) (fun _ h9 => h9) rfl d_Model_property_292 ?_
                              refine hv_put (D := D) (ci := 7) (v := .int (nI (σ.tape.length))) (ty := .int) (C := R_Model) (T := F_Model) (N := 25) hx hb hts i_Model t_Model t_Model_ok n_Model hown hK hP hS h106 rfl 13 (by decide) (hts _ k_Model_103) (fun _ h9 => h9) rfl (by decide +kernel) rfl rfl (Nat.le_of_ble_eq_true rfl) d_Model_property_295 (fun H locs hP hS => ?_)
                              obtain ⟨w107, ew107⟩ : ∃ z9 : hv_W, z9 = va_up w104 (K 0) (some (.inr (7, [.int 1, .ref (K 1), .ref (K 2), .ref (K 3), .ref (K 4), .ref (K 5), .ref (K 6), .ref (K 7), .ref (K 8), .ref (K 9), .ref (K 10), .ref (K 11), .ref (K 12), .int (nI (σ.tape.length)), .ref (K 13), .int 6, .int (σ.off), .int (σ.ins), .int (nI (σ.sc)), .int (nI (σ.ec)), .int (nI (σ.en)), .int (σ.tr), .int (nI (σ.lo)), .int (σ.wr), .int (nI (σ.due))]))) := ⟨_, rfl⟩
                              have hP : hv_P D classes s0.heap.size w107 H := by rw [ew107]; exact hP
                              have hM : mK ca K w0 (((mAo t9 k9 p9 σ).sThrown 1).sError 6) B w107 := by rw [ew107]; exact hM.put 0 (by decide) rfl
                              have h108 : w107 (K 0) = some (.inr (7, [.int 1, .ref (K 1), .ref (K 2), .ref (K 3), .ref (K 4), .ref (K 5), .ref (K 6), .ref (K 7), .ref (K 8), .ref (K 9), .ref (K 10), .ref (K 11), .ref (K 12), .int (nI (σ.tape.length)), .ref (K 13), .int 6, .int (σ.off), .int (σ.ins), .int (nI (σ.sc)), .int (nI (σ.ec)), .int (nI (σ.en)), .int (σ.tr), .int (nI (σ.lo)), .int (σ.wr), .int (nI (σ.due))])) := by rw [ew107]; exact hv_up_s
                              refine lv_iload hx hb d_Model_property_298 (lv_at hl 0 rfl) ?_
                              refine lv_if_ne (tgt := 312) hx hb d_Model_property_300 (by decide) (fun c300 => ?_) (fun c300 => ?_)
                              · refine lv_iconst (v := 0) hx hb d_Model_property_312 (by decide) ?_
                                exact hv_zret (v := 0) hQ hx hb hr (by decide) hZ hS hP hlocks d_Model_property_313 (mRet.of (r' := ((σ.sErr 6), 1, 0)) (by rw [x_property, cif_pos c4, hf]; dsimp only; rw [cif_pos hok, cif_neg c105, cif_neg c78, x_put, cif_neg (fun z => absurd (hpk.symm.trans z) (by decide)), cif_pos hpk]) (fun z9 => absurd z9 (show ¬ (1 : Nat) = 0 by decide)) hM (((hRel.err 6).thr 1).tp rfl) rfl)
                              · exact absurd c300 (by decide)
                            · exact absurd c279 c78
                          · exact absurd c191 (by decide)
                · exact absurd c118 (by decide)
              · refine lv_iload hx hb d_Model_property_108 (lv_at hl 1 rfl) ?_
                refine lv_if_lt (tgt := 138) hx hb d_Model_property_110 (by decide) (fun c110 => ?_) (fun c110 => ?_)
                · refine lv_iconst (v := 0) hx hb d_Model_property_138 (by decide) ?_
                  refine lv_istore (lv' := [(12, .int 0), (10, .long x), (9, .int ((-1))), (8, .int 0), (7, .int (nI i)), (0, .ref (K 0)), (1, .int k), (2, .int n), (3, .int y), (4, .int kd), (5, .long x)]) hx hb d_Model_property_139 hl (by decide) rfl (fun ls hl => ?_)
                  refine lv_aload_n hx hb d_Model_property_141 rfl (lv_at hl 5 rfl) ?_
                  refine lv_iload hx hb d_Model_property_142 (lv_at hl 4 rfl) ?_
                  refine gk_if_ge (x := i) (tgt := 151) hx hb d_Model_property_144 (by decide) (by omega) ?_
                  refine lv_iconst (v := 0) hx hb d_Model_property_151 (by decide) ?_
                  refine lv_iload hx hb d_Model_property_152 (lv_at hl 3 rfl) ?_
                  refine lv_iconst (v := 0) hx hb d_Model_property_154 (by decide) ?_
                  refine lv_iload hx hb d_Model_property_155 (lv_at hl 0 rfl) ?_
                  refine lv_if_eq (tgt := 181) hx hb d_Model_property_157 (by decide) (fun c157 => ?_) (fun c157 => ?_)
                  · refine lv_iconst (v := 0) hx hb d_Model_property_181 (by decide) ?_
                    refine lv_iload hx hb d_Model_property_182 (lv_at hl 0 rfl) ?_
                    refine hv_call (hv_runV (As := [.int 0, .int 0, .int 0, .int 0, .int 0]) (rest := []) (c_Model_fails C 0 0 0 0 0 hM (by show σ.ec + σ.sc ≤ 249; omega)) (hv_cw C hZ kc_Model_fails kn_Model ⟨rfl, rfl, Nat.le_of_ble_eq_true rfl, Nat.le_of_ble_eq_true rfl⟩) hv_blind (hv_pre hZ hS hP) hx hml hb hown (hts _ k_Model_116) (hts _ ki_Model_fails) (hts _ ksel_Model_Model_fails) hy_Model_fails (hts _ kc_Model_fails) (va_recv hK (hv_one hP h1) (ci := 7) (q0 := 0) rfl rfl) rfl hl.1 rfl (lv_room (Nat.le_of_ble_eq_true rfl)) d_Model_property_184 ⟨Nat.le_of_ble_eq_true rfl, Nat.le_of_ble_eq_true rfl⟩) hZ hS (fun v9 w109 H locs q110 hP hS => ?_) (fun x9 w109 H locs q110 hP hS => q110.elim)
                    rcases q110 with ⟨ho9, hv9, hM⟩ | ⟨ho9, he9, hv9, hM⟩ | ⟨ho9, he9, hv9, hM⟩
                    · exact absurd c4 ho9
                    · subst hv9
                      show W _ _ _ _ _ _ _ _ _ _ _ _ _ _ _ (F0 m 187 ls [.int 0])
                      refine lv_istore (lv' := [(13, .int 0), (12, .int 0), (10, .long x), (9, .int ((-1))), (8, .int 0), (7, .int (nI i)), (0, .ref (K 0)), (1, .int k), (2, .int n), (3, .int y), (4, .int kd), (5, .long x)]) hx hb d_Model_property_187 hl (by decide) rfl (fun ls hl => ?_)
                      refine lv_iload hx hb d_Model_property_189 (lv_at hl 0 rfl) ?_
                      refine lv_if_ne (tgt := 275) hx hb d_Model_property_191 (by decide) (fun c191 => ?_) (fun c191 => ?_)
                      · exact absurd c191 (by decide)
                      · refine lv_iload hx hb d_Model_property_194 (lv_at hl 1 rfl) ?_
                        refine lv_if_eq (tgt := 275) hx hb d_Model_property_196 (by decide) (fun c196 => ?_) (fun c196 => ?_)
                        · refine lv_aload_n hx hb d_Model_property_275 rfl (lv_at hl 6 rfl) ?_
                          refine lv_iload hx hb d_Model_property_276 (lv_at hl 10 rfl) ?_
                          refine lv_iconst (v := 3) hx hb d_Model_property_278 (by decide) ?_
                          refine lv_icmp_ne (tgt := 291) hx hb d_Model_property_279 (by decide) (fun c279 => ?_) (fun c279 => ?_)
                          · refine lv_aload_n hx hb d_Model_property_291 rfl (lv_at hl 6 rfl) ?_
                            have h111 : w109 (K 0) = some (.inr (7, [.int 0, .ref (K 1), .ref (K 2), .ref (K 3), .ref (K 4), .ref (K 5), .ref (K 6), .ref (K 7), .ref (K 8), .ref (K 9), .ref (K 10), .ref (K 11), .ref (K 12), .int (nI (σ.tape.length)), .ref (K 13), .int (σ.err), .int (σ.off), .int (σ.ins), .int (nI (σ.sc)), .int (nI (σ.ec)), .int (nI (σ.en)), .int (σ.tr), .int (nI (σ.lo)), .int (σ.wr), .int (nI (σ.due))])) := hM.1.2 0 (by decide)
                            refine va_get (D := D) (ci := 7) (v := .int (nI (σ.tape.length))) (C := R_Model) (T := F_Model) (N := 25) hx hb hts i_Model hown hK (hv_one hP h111) 0 rfl rfl 13 (by decide) (hts _ k_Model_103) (fun _ h9 => h9) rfl d_Model_property_292 ?_
                            refine hv_put (D := D) (ci := 7) (v := .int (nI (σ.tape.length))) (ty := .int) (C := R_Model) (T := F_Model) (N := 25) hx hb hts i_Model t_Model t_Model_ok n_Model hown hK hP hS h111 rfl 13 (by decide) (hts _ k_Model_103) (fun _ h9 => h9) rfl (by decide +kernel) rfl rfl (Nat.le_of_ble_eq_true rfl) d_Model_property_295 (fun H locs hP hS => ?_)
                            obtain ⟨w112, ew112⟩ : ∃ z9 : hv_W, z9 = va_up w109 (K 0) (some (.inr (7, [.int 0, .ref (K 1), .ref (K 2), .ref (K 3), .ref (K 4), .ref (K 5), .ref (K 6), .ref (K 7), .ref (K 8), .ref (K 9), .ref (K 10), .ref (K 11), .ref (K 12), .int (nI (σ.tape.length)), .ref (K 13), .int (σ.err), .int (σ.off), .int (σ.ins), .int (nI (σ.sc)), .int (nI (σ.ec)), .int (nI (σ.en)), .int (σ.tr), .int (nI (σ.lo)), .int (σ.wr), .int (nI (σ.due))]))) := ⟨_, rfl⟩
                            have hP : hv_P D classes s0.heap.size w112 H := by rw [ew112]; exact hP
                            have hM : mK ca K w0 ((mAo t9 k9 p9 σ).sThrown 0) B w112 := by rw [ew112]; exact hM.put 0 (by decide) rfl
                            have h113 : w112 (K 0) = some (.inr (7, [.int 0, .ref (K 1), .ref (K 2), .ref (K 3), .ref (K 4), .ref (K 5), .ref (K 6), .ref (K 7), .ref (K 8), .ref (K 9), .ref (K 10), .ref (K 11), .ref (K 12), .int (nI (σ.tape.length)), .ref (K 13), .int (σ.err), .int (σ.off), .int (σ.ins), .int (nI (σ.sc)), .int (nI (σ.ec)), .int (nI (σ.en)), .int (σ.tr), .int (nI (σ.lo)), .int (σ.wr), .int (nI (σ.due))])) := by rw [ew112]; exact hv_up_s
                            refine lv_iload hx hb d_Model_property_298 (lv_at hl 0 rfl) ?_
                            refine lv_if_ne (tgt := 312) hx hb d_Model_property_300 (by decide) (fun c300 => ?_) (fun c300 => ?_)
                            · exact absurd c300 (by decide)
                            · refine lv_iload hx hb d_Model_property_303 (lv_at hl 1 rfl) ?_
                              refine lv_if_eq (tgt := 312) hx hb d_Model_property_305 (by decide) (fun c305 => ?_) (fun c305 => ?_)
                              · refine lv_iconst (v := 0) hx hb d_Model_property_312 (by decide) ?_
                                exact hv_zret (v := 0) hQ hx hb hr (by decide) hZ hS hP hlocks d_Model_property_313 (mRet.of (r' := (σ, 0, 0)) (by rw [x_property, cif_pos c4, hf]; dsimp only; rw [cif_pos hok, cif_pos c105, x_drp, hgl]) (fun _ => rfl) hM ((hRel.thr 0).tp rfl) rfl)
                              · exact absurd c305 (by decide)
                          · exact absurd c279 c78
                        · exact absurd c196 (by decide)
                    · exact absurd (show m_fe (mAo t9 k9 p9 σ).earlier (mAo t9 k9 p9 σ).changes 0 0 0 0 0 = 0 by rw [m_fe, if_neg (by decide), if_neg (by decide), if_neg (by decide), if_neg (by decide), if_neg (fun z8 => absurd z8.1 (by decide))]) he9
                  · exact absurd c157 (by decide)
                · exact absurd c110 (by decide)
          · refine lv_aload_n hx hb d_Model_property_81 rfl (lv_at hl 3 rfl) ?_
            refine va_get (D := D) (ci := 7) (v := .int (nI (σ.tape.length))) (C := R_Model) (T := F_Model) (N := 25) hx hb hts i_Model hown hK (hv_one hP h1) 0 rfl rfl 13 (by decide) (hts _ k_Model_103) (fun _ h9 => h9) rfl d_Model_property_82 ?_
            refine lv_i2l (v := (nI (σ.tape.length)).toInt64) hx hb d_Model_property_85 rfl ?_
            refine lv_goto (tgt := 91) hx hb d_Model_property_86 (by decide) ?_
            refine lv_lstore (lv' := [(10, .long ((nI (σ.tape.length)).toInt64)), (9, .int ((-1))), (8, .int 0), (7, .int (nI i)), (0, .ref (K 0)), (1, .int k), (2, .int n), (3, .int y), (4, .int kd), (5, .long x)]) hx hb d_Model_property_91 hl (by decide) rfl (fun ls hl => ?_)
            refine lv_iload hx hb d_Model_property_93 (lv_at hl 3 rfl) ?_
            refine gk_if_lt (x := i) (tgt := 138) hx hb d_Model_property_95 (by decide) (by omega) ?_
            refine lv_iload hx hb d_Model_property_98 (lv_at hl 2 rfl) ?_
            refine lv_if_ne (tgt := 138) hx hb d_Model_property_100 (by decide) (fun c100 => ?_) (fun c100 => ?_)
            · exact absurd c100 (by decide)
            · refine lv_iload hx hb d_Model_property_103 (lv_at hl 8 rfl) ?_
              refine lv_if_ne (tgt := 116) hx hb d_Model_property_105 (by decide) (fun c105 => ?_) (fun c105 => ?_)
              · refine lv_iload hx hb d_Model_property_116 (lv_at hl 1 rfl) ?_
                refine lv_if_lt (tgt := 134) hx hb d_Model_property_118 (by decide) (fun c118 => ?_) (fun c118 => ?_)
                · refine lv_iconst (v := 1) hx hb d_Model_property_134 (by decide) ?_
                  refine lv_goto (tgt := 139) hx hb d_Model_property_135 (by decide) ?_
                  refine lv_istore (lv' := [(12, .int 1), (10, .long ((nI (σ.tape.length)).toInt64)), (9, .int ((-1))), (8, .int 0), (7, .int (nI i)), (0, .ref (K 0)), (1, .int k), (2, .int n), (3, .int y), (4, .int kd), (5, .long x)]) hx hb d_Model_property_139 hl (by decide) rfl (fun ls hl => ?_)
                  refine lv_aload_n hx hb d_Model_property_141 rfl (lv_at hl 5 rfl) ?_
                  refine lv_iload hx hb d_Model_property_142 (lv_at hl 4 rfl) ?_
                  refine gk_if_ge (x := i) (tgt := 151) hx hb d_Model_property_144 (by decide) (by omega) ?_
                  refine lv_iconst (v := 0) hx hb d_Model_property_151 (by decide) ?_
                  refine lv_iload hx hb d_Model_property_152 (lv_at hl 3 rfl) ?_
                  refine lv_iconst (v := 0) hx hb d_Model_property_154 (by decide) ?_
                  refine lv_iload hx hb d_Model_property_155 (lv_at hl 0 rfl) ?_
                  refine lv_if_eq (tgt := 181) hx hb d_Model_property_157 (by decide) (fun c157 => ?_) (fun c157 => ?_)
                  · exact absurd c157 (by decide)
                  · refine lv_iload hx hb d_Model_property_160 (lv_at hl 2 rfl) ?_
                    refine lv_if_ge (tgt := 181) hx hb d_Model_property_162 (by decide) (fun c162 => ?_) (fun c162 => ?_)
                    · exact absurd c162 (by decide)
                    · refine lv_aload_n hx hb d_Model_property_165 rfl (lv_at hl 5 rfl) ?_
                      refine va_get (D := D) (ci := 7) (v := .ref (K 7)) (C := R_Model) (T := F_Model) (N := 25) hx hb hts i_Model hown hK (hv_one hP h1) 0 rfl rfl 7 (by decide) (hts _ k_Model_29) (fun _ h9 => h9) rfl d_Model_property_166 ?_
                      refine lv_iload hx hb d_Model_property_169 (lv_at hl 4 rfl) ?_
                      have h114 : w (K 7) = some (.inl (ca 0, 640, .inl B.propertyMany)) := hM.1.2 7 (by decide)
                      refine va_iald hx hb hK (hv_one hP h114) 0 0 rfl rfl (vp_in_nI (n := i) (by omega) (by omega)) d_Model_property_171 ?_
                      rw [nI_clamp (n := i) (by omega)]
                      refine lv_topi (fun v9 e9 => ?_)
                      have e9 : v9 = nI t.ps.length := e9.trans (hat9.2.1.1)
                      subst e9
                      show W _ _ _ _ _ _ _ _ _ _ _ _ _ _ _ (F0 m 172 ls [.int (nI t.ps.length), .int 0, .int 0, .int 0, .ref (K 0)])
                      refine lv_bipush (v := 6) hx hb d_Model_property_172 (by decide) ?_
                      refine gk_icmp_ne (x := t.ps.length) (y := 6) (tgt := 181) hx hb d_Model_property_174 (by decide) (by omega) (by omega) (fun c174 => ?_) (fun c174 => ?_)
                      · have hpk : x_pk t.ps (y, kd, (nI σ.tape.length).toInt64, σ.tape) = 2 := by rw [x_pk_n hgl]; exact if_neg (by have := hw.2.2.1; omega)
                        have hl5 : t.ps.length < 6 := by have := hw.2.2.1; omega
                        refine lv_iconst (v := 0) hx hb d_Model_property_181 (by decide) ?_
                        refine lv_iload hx hb d_Model_property_182 (lv_at hl 0 rfl) ?_
                        refine hv_call (hv_runV (As := [.int 0, .int 0, .int 0, .int 0, .int 1]) (rest := []) (c_Model_fails C 0 0 0 0 1 hM (by show σ.ec + σ.sc ≤ 249; omega)) (hv_cw C hZ kc_Model_fails kn_Model ⟨rfl, rfl, Nat.le_of_ble_eq_true rfl, Nat.le_of_ble_eq_true rfl⟩) hv_blind (hv_pre hZ hS hP) hx hml hb hown (hts _ k_Model_116) (hts _ ki_Model_fails) (hts _ ksel_Model_Model_fails) hy_Model_fails (hts _ kc_Model_fails) (va_recv hK (hv_one hP h1) (ci := 7) (q0 := 0) rfl rfl) rfl hl.1 rfl (lv_room (Nat.le_of_ble_eq_true rfl)) d_Model_property_184 ⟨Nat.le_of_ble_eq_true rfl, Nat.le_of_ble_eq_true rfl⟩) hZ hS (fun v9 w115 H locs q116 hP hS => ?_) (fun x9 w115 H locs q116 hP hS => q116.elim)
                        rcases q116 with ⟨ho9, hv9, hM⟩ | ⟨ho9, he9, hv9, hM⟩ | ⟨ho9, he9, hv9, hM⟩
                        · exact absurd c4 ho9
                        · have h249 : ¬ 249 ≤ σ.ec + σ.sc := fun z9 => by rw [m_fe, if_neg (by decide), if_neg (by decide), if_neg (by decide), if_neg (by decide), if_pos ⟨by decide, show σ.ec + σ.sc = 249 by omega⟩] at he9; exact absurd he9 (by decide)
                          subst hv9
                          show W _ _ _ _ _ _ _ _ _ _ _ _ _ _ _ (F0 m 187 ls [.int 0])
                          refine lv_istore (lv' := [(13, .int 0), (12, .int 1), (10, .long ((nI (σ.tape.length)).toInt64)), (9, .int ((-1))), (8, .int 0), (7, .int (nI i)), (0, .ref (K 0)), (1, .int k), (2, .int n), (3, .int y), (4, .int kd), (5, .long x)]) hx hb d_Model_property_187 hl (by decide) rfl (fun ls hl => ?_)
                          refine lv_iload hx hb d_Model_property_189 (lv_at hl 0 rfl) ?_
                          refine lv_if_ne (tgt := 275) hx hb d_Model_property_191 (by decide) (fun c191 => ?_) (fun c191 => ?_)
                          · exact absurd c191 (by decide)
                          · refine lv_iload hx hb d_Model_property_194 (lv_at hl 1 rfl) ?_
                            refine lv_if_eq (tgt := 275) hx hb d_Model_property_196 (by decide) (fun c196 => ?_) (fun c196 => ?_)
                            · exact absurd c196 (by decide)
                            · refine lv_aload_n hx hb d_Model_property_199 rfl (lv_at hl 6 rfl) ?_
                              have h117 : w115 (K 0) = some (.inr (7, [.int 0, .ref (K 1), .ref (K 2), .ref (K 3), .ref (K 4), .ref (K 5), .ref (K 6), .ref (K 7), .ref (K 8), .ref (K 9), .ref (K 10), .ref (K 11), .ref (K 12), .int (nI (σ.tape.length)), .ref (K 13), .int (σ.err), .int (σ.off), .int (σ.ins), .int (nI (σ.sc)), .int (nI (σ.ec)), .int (nI (σ.en)), .int (σ.tr), .int (nI (σ.lo)), .int (σ.wr), .int (nI (σ.due))])) := hM.1.2 0 (by decide)
                              refine hv_call (hv_runV (As := []) (rest := []) (c_Model_begins C hM (hRel.thr 0) hW c4) (hv_cw C hZ kc_Model_begins kn_Model ⟨rfl, rfl, Nat.le_of_ble_eq_true rfl, Nat.le_of_ble_eq_true rfl⟩) hv_blind (hv_pre hZ hS hP) hx hml hb hown (hts _ k_Model_120) (hts _ ki_Model_begins) (hts _ ksel_Model_Model_begins) hy_Model_begins (hts _ kc_Model_begins) (va_recv hK (hv_one hP h117) (ci := 7) (q0 := 0) rfl rfl) rfl hl.1 rfl (lv_room (Nat.le_of_ble_eq_true rfl)) d_Model_property_200 ⟨Nat.le_of_ble_eq_true rfl, Nat.le_of_ble_eq_true rfl⟩) hZ hS (fun v9 w118 H locs q119 hP hS => ?_) (fun x9 w118 H locs q119 hP hS => q119.elim)
                              obtain ⟨hv9, B2, hM, hRel2⟩ := q119
                              subst hv9
                              have hM : mK ca K w0 (((mAo t9 k9 p9 σ).sThrown 0).sChanges (σ.sc + 1)) B2 w118 := hM
                              have hRel2 : mRel (((mAo t9 k9 p9 σ).sThrown 0).sChanges (σ.sc + 1)) B2 (σ.sSc (σ.sc + 1)) := hRel2
                              show W _ _ _ _ _ _ _ _ _ _ _ _ _ _ _ (F0 m 203 ls [])
                              have hT2 : mT B2 i i (some t) := by have z9 := mG0 hRel2.1.1 hi; rw [show (σ.sSc (σ.sc + 1)).now i = some t from ht] at z9; exact z9
                              have hl69 : t.ps.length ≤ 6 := hw.2.2.1
                              refine lv_iload hx hb d_Model_property_203 (lv_at hl 10 rfl) ?_
                              refine lv_if_ne (tgt := 219) hx hb d_Model_property_205 (by decide) (fun c205 => ?_) (fun c205 => ?_)
                              · refine lv_iload hx hb d_Model_property_219 (lv_at hl 3 rfl) ?_
                                refine lv_if_ge (tgt := 240) hx hb d_Model_property_221 (by decide) (fun c221 => ?_) (fun c221 => ?_)
                                · exact absurd c221 (by decide)
                                · refine lv_bipush (v := 6) hx hb d_Model_property_224 (by decide) ?_
                                  refine lv_iload hx hb d_Model_property_226 (lv_at hl 5 rfl) ?_
                                  refine gk_imul (x := 6) (y := i) hx hb d_Model_property_228 ?_
                                  refine lv_aload_n hx hb d_Model_property_229 rfl (lv_at hl 6 rfl) ?_
                                  have h120 : w118 (K 0) = some (.inr (7, [.int 0, .ref (K 1), .ref (K 2), .ref (K 3), .ref (K 4), .ref (K 5), .ref (K 6), .ref (K 7), .ref (K 8), .ref (K 9), .ref (K 10), .ref (K 11), .ref (K 12), .int (nI (σ.tape.length)), .ref (K 13), .int (σ.err), .int (σ.off), .int (σ.ins), .int (nI (σ.sc + 1)), .int (nI (σ.ec)), .int (nI (σ.en)), .int (σ.tr), .int (nI (σ.lo)), .int (σ.wr), .int (nI (σ.due))])) := hM.1.2 0 (by decide)
                                  refine va_get (D := D) (ci := 7) (v := .ref (K 7)) (C := R_Model) (T := F_Model) (N := 25) hx hb hts i_Model hown hK (hv_one hP h120) 0 rfl rfl 7 (by decide) (hts _ k_Model_29) (fun _ h9 => h9) rfl d_Model_property_230 ?_
                                  refine lv_iload hx hb d_Model_property_233 (lv_at hl 5 rfl) ?_
                                  have h121 : w118 (K 7) = some (.inl (ca 0, 640, .inl B2.propertyMany)) := hM.1.2 7 (by decide)
                                  refine va_iald hx hb hK (hv_one hP h121) 0 0 rfl rfl (vp_in_nI (n := i) (by omega) (by omega)) d_Model_property_235 ?_
                                  rw [nI_clamp (n := i) (by omega)]
                                  refine lv_topi (fun v9 e9 => ?_)
                                  have e9 : v9 = nI t.ps.length := e9.trans (hT2.2.1.1)
                                  subst e9
                                  show W _ _ _ _ _ _ _ _ _ _ _ _ _ _ _ (F0 m 236 ls [.int (nI t.ps.length), .int (nI (6 * i))])
                                  refine gk_iadd (x := 6 * i) (y := t.ps.length) hx hb d_Model_property_236 ?_
                                  refine lv_goto (tgt := 242) hx hb d_Model_property_237 (by decide) ?_
                                  refine lv_istore (lv' := [(14, .int (nI ((6 * i) + t.ps.length))), (13, .int 0), (12, .int 1), (10, .long ((nI (σ.tape.length)).toInt64)), (9, .int ((-1))), (8, .int 0), (7, .int (nI i)), (0, .ref (K 0)), (1, .int k), (2, .int n), (3, .int y), (4, .int kd), (5, .long x)]) hx hb d_Model_property_242 hl (by decide) rfl (fun ls hl => ?_)
                                  refine lv_aload_n hx hb d_Model_property_244 rfl (lv_at hl 7 rfl) ?_
                                  refine va_get (D := D) (ci := 7) (v := .ref (K 7)) (C := R_Model) (T := F_Model) (N := 25) hx hb hts i_Model hown hK (hv_one hP h120) 0 rfl rfl 7 (by decide) (hts _ k_Model_29) (fun _ h9 => h9) rfl d_Model_property_245 ?_
                                  refine lv_iload hx hb d_Model_property_248 (lv_at hl 6 rfl) ?_
                                  refine lv_dup2_11 hx hb d_Model_property_250 rfl rfl ?_
                                  refine va_iald hx hb hK (hv_one hP h121) 0 0 rfl rfl (vp_in_nI (n := i) (by omega) (by omega)) d_Model_property_251 ?_
                                  rw [nI_clamp (n := i) (by omega)]
                                  refine lv_topi (fun v9 e9 => ?_)
                                  have e9 : v9 = nI t.ps.length := e9.trans (hT2.2.1.1)
                                  subst e9
                                  show W _ _ _ _ _ _ _ _ _ _ _ _ _ _ _ (F0 m 252 ls [.int (nI t.ps.length), .int (nI i), .ref (K 7)])
                                  refine lv_iload hx hb d_Model_property_252 (lv_at hl 4 rfl) ?_
                                  refine lv_if_ge (tgt := 261) hx hb d_Model_property_254 (by decide) (fun c254 => ?_) (fun c254 => ?_)
                                  · exact absurd c254 (by decide)
                                  · refine lv_iconst (v := 1) hx hb d_Model_property_257 (by decide) ?_
                                    refine lv_goto (tgt := 262) hx hb d_Model_property_258 (by decide) ?_
                                    refine gk_iadd (x := t.ps.length) (y := 1) hx hb d_Model_property_262 ?_
                                    refine hv_iast hx hb hK hP hS 0 h121 rfl (vp_in_nI (n := i) (by omega) (by omega)) d_Model_property_263 (fun H locs hP hS => ?_)
                                    rw [nI_clamp (n := i) (by omega)] at hP
                                    obtain ⟨w122, ew122⟩ : ∃ z9 : hv_W, z9 = va_up w118 (K 7) (some (.inl (ca 0, 640, .inl (upd B2.propertyMany i ((nI (t.ps.length + 1))))))) := ⟨_, rfl⟩
                                    have hP : hv_P D classes s0.heap.size w122 H := by rw [ew122]; exact hP
                                    have hM : mK ca K w0 (((mAo t9 k9 p9 σ).sThrown 0).sChanges (σ.sc + 1)) (B2.sPropertyMany (upd B2.propertyMany i ((nI (t.ps.length + 1))))) w122 := by rw [ew122]; exact hM.put 7 (by decide) rfl
                                    have h123 : w122 (K 7) = some (.inl (ca 0, 640, .inl (upd B2.propertyMany i ((nI (t.ps.length + 1)))))) := by rw [ew122]; exact hv_up_s
                                    refine lv_aload_n hx hb d_Model_property_264 rfl (lv_at hl 7 rfl) ?_
                                    refine lv_iload hx hb d_Model_property_265 (lv_at hl 0 rfl) ?_
                                    refine lv_iload_n hx hb d_Model_property_267 rfl (lv_at hl 10 rfl) ?_
                                    refine lv_iload hx hb d_Model_property_268 (lv_at hl 11 rfl) ?_
                                    refine lv_lload hx hb d_Model_property_270 (lv_at hl 3 rfl) ?_
                                    have h124 : w122 (K 0) = some (.inr (7, [.int 0, .ref (K 1), .ref (K 2), .ref (K 3), .ref (K 4), .ref (K 5), .ref (K 6), .ref (K 7), .ref (K 8), .ref (K 9), .ref (K 10), .ref (K 11), .ref (K 12), .int (nI (σ.tape.length)), .ref (K 13), .int (σ.err), .int (σ.off), .int (σ.ins), .int (nI (σ.sc + 1)), .int (nI (σ.ec)), .int (nI (σ.en)), .int (σ.tr), .int (nI (σ.lo)), .int (σ.wr), .int (nI (σ.due))])) := hM.1.2 0 (by decide)
                                    refine hv_call (hv_runV (As := [.int (nI ((6 * i) + t.ps.length)), .int y, .int kd, .long ((nI (σ.tape.length)).toInt64)]) (rest := []) (c_Model_lay C y kd ((nI σ.tape.length).toInt64) (q := 6 * i + t.ps.length) (by omega) hM) (hv_cw C hZ kc_Model_lay kn_Model ⟨rfl, rfl, Nat.le_of_ble_eq_true rfl, Nat.le_of_ble_eq_true rfl⟩) hv_blind (hv_pre hZ hS hP) hx hml hb hown (hts _ k_Model_140) (hts _ ki_Model_lay) (hts _ ksel_Model_Model_lay) hy_Model_lay (hts _ kc_Model_lay) (va_recv hK (hv_one hP h124) (ci := 7) (q0 := 0) rfl rfl) rfl hl.1 rfl (lv_room (Nat.le_of_ble_eq_true rfl)) d_Model_property_272 ⟨Nat.le_of_ble_eq_true rfl, Nat.le_of_ble_eq_true rfl⟩) hZ hS (fun v9 w125 H locs q126 hP hS => ?_) (fun x9 w125 H locs q126 hP hS => q126.elim)
                                    obtain ⟨hv9, g, hM, hg1, hg2⟩ := q126
                                    subst hv9
                                    have hM : mK ca K w0 (((mAo t9 k9 p9 σ).sThrown 0).sChanges (σ.sc + 1)) (mLaid B2 (upd B2.propertyMany i (nI (t.ps.length + 1))) (6 * i + t.ps.length) y kd ((nI σ.tape.length).toInt64) g) w125 := hM
                                    have hg2 : ∀ j, (j < 3 * (6 * i + t.ps.length) ∨ 3 * (6 * i + t.ps.length) + 3 ≤ j) → g j = B2.texts j := hg2
                                    show W _ _ _ _ _ _ _ _ _ _ _ _ _ _ _ (F0 m 275 ls [])
                                    refine lv_aload_n hx hb d_Model_property_275 rfl (lv_at hl 7 rfl) ?_
                                    refine lv_iload hx hb d_Model_property_276 (lv_at hl 11 rfl) ?_
                                    refine lv_iconst (v := 3) hx hb d_Model_property_278 (by decide) ?_
                                    refine lv_icmp_ne (tgt := 291) hx hb d_Model_property_279 (by decide) (fun c279 => ?_) (fun c279 => ?_)
                                    · exact absurd c78 c279
                                    · refine lv_iload hx hb d_Model_property_282 (lv_at hl 6 rfl) ?_
                                      refine gk_if_lt (x := i) (tgt := 291) hx hb d_Model_property_284 (by decide) (by omega) ?_
                                      refine lv_iconst (v := 0) hx hb d_Model_property_287 (by decide) ?_
                                      refine lv_goto (tgt := 295) hx hb d_Model_property_288 (by decide) ?_
                                      have h127 : w125 (K 0) = some (.inr (7, [.int 0, .ref (K 1), .ref (K 2), .ref (K 3), .ref (K 4), .ref (K 5), .ref (K 6), .ref (K 7), .ref (K 8), .ref (K 9), .ref (K 10), .ref (K 11), .ref (K 12), .int (nI (σ.tape.length)), .ref (K 13), .int (σ.err), .int (σ.off), .int (σ.ins), .int (nI (σ.sc + 1)), .int (nI (σ.ec)), .int (nI (σ.en)), .int (σ.tr), .int (nI (σ.lo)), .int (σ.wr), .int (nI (σ.due))])) := hM.1.2 0 (by decide)
                                      refine hv_put (D := D) (ci := 7) (v := .int 0) (ty := .int) (C := R_Model) (T := F_Model) (N := 25) hx hb hts i_Model t_Model t_Model_ok n_Model hown hK hP hS h127 rfl 13 (by decide) (hts _ k_Model_103) (fun _ h9 => h9) rfl (by decide +kernel) rfl rfl (Nat.le_of_ble_eq_true rfl) d_Model_property_295 (fun H locs hP hS => ?_)
                                      obtain ⟨w128, ew128⟩ : ∃ z9 : hv_W, z9 = va_up w125 (K 0) (some (.inr (7, [.int 0, .ref (K 1), .ref (K 2), .ref (K 3), .ref (K 4), .ref (K 5), .ref (K 6), .ref (K 7), .ref (K 8), .ref (K 9), .ref (K 10), .ref (K 11), .ref (K 12), .int 0, .ref (K 13), .int (σ.err), .int (σ.off), .int (σ.ins), .int (nI (σ.sc + 1)), .int (nI (σ.ec)), .int (nI (σ.en)), .int (σ.tr), .int (nI (σ.lo)), .int (σ.wr), .int (nI (σ.due))]))) := ⟨_, rfl⟩
                                      have hP : hv_P D classes s0.heap.size w128 H := by rw [ew128]; exact hP
                                      have hM : mK ca K w0 ((((mAo t9 k9 p9 σ).sThrown 0).sTapeSize 0).sChanges (σ.sc + 1)) (mLaid B2 (upd B2.propertyMany i (nI (t.ps.length + 1))) (6 * i + t.ps.length) y kd ((nI σ.tape.length).toInt64) g) w128 := by rw [ew128]; exact hM.put 0 (by decide) rfl
                                      have h129 : w128 (K 0) = some (.inr (7, [.int 0, .ref (K 1), .ref (K 2), .ref (K 3), .ref (K 4), .ref (K 5), .ref (K 6), .ref (K 7), .ref (K 8), .ref (K 9), .ref (K 10), .ref (K 11), .ref (K 12), .int 0, .ref (K 13), .int (σ.err), .int (σ.off), .int (σ.ins), .int (nI (σ.sc + 1)), .int (nI (σ.ec)), .int (nI (σ.en)), .int (σ.tr), .int (nI (σ.lo)), .int (σ.wr), .int (nI (σ.due))])) := by rw [ew128]; exact hv_up_s
                                      refine lv_iload hx hb d_Model_property_298 (lv_at hl 1 rfl) ?_
                                      refine lv_if_ne (tgt := 312) hx hb d_Model_property_300 (by decide) (fun c300 => ?_) (fun c300 => ?_)
                                      · exact absurd c300 (by decide)
                                      · refine lv_iload hx hb d_Model_property_303 (lv_at hl 2 rfl) ?_
                                        refine lv_if_eq (tgt := 312) hx hb d_Model_property_305 (by decide) (fun c305 => ?_) (fun c305 => ?_)
                                        · exact absurd c305 (by decide)
                                        · refine lv_iconst (v := 1) hx hb d_Model_property_308 (by decide) ?_
                                          refine lv_goto (tgt := 313) hx hb d_Model_property_309 (by decide) ?_
                                          exact hv_zret (v := 1) hQ hx hb hr (by decide) hZ hS hP hlocks d_Model_property_313 (mRet.of (r' := ((x_one (σ.sTape []) i (some (t.sPs (g_put t.ps (y, kd, (nI σ.tape.length).toInt64, σ.tape))))), 0, 1)) (by rw [x_property, cif_pos c4, hf]; dsimp only; rw [cif_pos hok, cif_neg c105, cif_pos c78, x_put, cif_neg (fun z => absurd (hpk.symm.trans z) (by decide)), cif_neg (fun z => absurd (hpk.symm.trans z) (by decide)), cif_neg (show ¬ 249 ≤ (σ.sTape []).ec + (σ.sTape []).sc from h249)]) (fun _ => rfl) hM ((hRel2.set hW.1 hi (o := some (t.sPs (g_put t.ps (y, kd, (nI σ.tape.length).toInt64, σ.tape)))) (fun j hj => mEq_laid hj hl5 (fun j9 hj9 => pk_un hj9) hg2) (by rw [g_put_app hg]; exact mT_ps hT2 hl5 hw (by rw [List.length_append, List.length_singleton]; omega) (by rw [pk_us, List.length_append]; rfl) ps_app1 ps_app2 (fun k9 hk9 => by rw [hg1 (k9 / 8) (by have z9 : k9 < σ.tape.length := hk9; omega), if_pos c78]; exact hRel.2.2.2.2.2.1 k9 hk9) hg2) (Or.inr hT2.1)).tape0) rfl)
                              · exact absurd c205 c105
                        · have h249 : 249 ≤ σ.ec + σ.sc := Classical.byContradiction fun z9 => he9 (by rw [m_fe, if_neg (by decide), if_neg (by decide), if_neg (by decide), if_neg (by decide), if_neg (fun z8 => z9 (by have h8 : σ.ec + σ.sc = 249 := z8.2; omega))])
                          rw [show m_fe (mAo t9 k9 p9 σ).earlier (mAo t9 k9 p9 σ).changes 0 0 0 0 1 = 9 by rw [m_fe, if_neg (by decide), if_neg (by decide), if_neg (by decide), if_neg (by decide), if_pos ⟨by decide, show σ.ec + σ.sc = 249 by omega⟩]] at hM
                          subst hv9
                          show W _ _ _ _ _ _ _ _ _ _ _ _ _ _ _ (F0 m 187 ls [.int 1])
                          refine lv_istore (lv' := [(13, .int 1), (12, .int 1), (10, .long ((nI (σ.tape.length)).toInt64)), (9, .int ((-1))), (8, .int 0), (7, .int (nI i)), (0, .ref (K 0)), (1, .int k), (2, .int n), (3, .int y), (4, .int kd), (5, .long x)]) hx hb d_Model_property_187 hl (by decide) rfl (fun ls hl => ?_)
                          refine lv_iload hx hb d_Model_property_189 (lv_at hl 0 rfl) ?_
                          refine lv_if_ne (tgt := 275) hx hb d_Model_property_191 (by decide) (fun c191 => ?_) (fun c191 => ?_)
                          · refine lv_aload_n hx hb d_Model_property_275 rfl (lv_at hl 6 rfl) ?_
                            refine lv_iload hx hb d_Model_property_276 (lv_at hl 10 rfl) ?_
                            refine lv_iconst (v := 3) hx hb d_Model_property_278 (by decide) ?_
                            refine lv_icmp_ne (tgt := 291) hx hb d_Model_property_279 (by decide) (fun c279 => ?_) (fun c279 => ?_)
                            · exact absurd c78 c279
                            · refine lv_iload hx hb d_Model_property_282 (lv_at hl 5 rfl) ?_
                              refine gk_if_lt (x := i) (tgt := 291) hx hb d_Model_property_284 (by decide) (by omega) ?_
                              refine lv_iconst (v := 0) hx hb d_Model_property_287 (by decide) ?_
                              refine lv_goto (tgt := 295) hx hb d_Model_property_288 (by decide) ?_
                              have h130 : w115 (K 0) = some (.inr (7, [.int 1, .ref (K 1), .ref (K 2), .ref (K 3), .ref (K 4), .ref (K 5), .ref (K 6), .ref (K 7), .ref (K 8), .ref (K 9), .ref (K 10), .ref (K 11), .ref (K 12), .int (nI (σ.tape.length)), .ref (K 13), .int 9, .int (σ.off), .int (σ.ins), .int (nI (σ.sc)), .int (nI (σ.ec)), .int (nI (σ.en)), .int (σ.tr), .int (nI (σ.lo)), .int (σ.wr), .int (nI (σ.due))])) := hM.1.2 0 (by decide)
                              refine hv_put (D := D) (ci := 7) (v := .int 0) (ty := .int) (C := R_Model) (T := F_Model) (N := 25) hx hb hts i_Model t_Model t_Model_ok n_Model hown hK hP hS h130 rfl 13 (by decide) (hts _ k_Model_103) (fun _ h9 => h9) rfl (by decide +kernel) rfl rfl (Nat.le_of_ble_eq_true rfl) d_Model_property_295 (fun H locs hP hS => ?_)
                              obtain ⟨w131, ew131⟩ : ∃ z9 : hv_W, z9 = va_up w115 (K 0) (some (.inr (7, [.int 1, .ref (K 1), .ref (K 2), .ref (K 3), .ref (K 4), .ref (K 5), .ref (K 6), .ref (K 7), .ref (K 8), .ref (K 9), .ref (K 10), .ref (K 11), .ref (K 12), .int 0, .ref (K 13), .int 9, .int (σ.off), .int (σ.ins), .int (nI (σ.sc)), .int (nI (σ.ec)), .int (nI (σ.en)), .int (σ.tr), .int (nI (σ.lo)), .int (σ.wr), .int (nI (σ.due))]))) := ⟨_, rfl⟩
                              have hP : hv_P D classes s0.heap.size w131 H := by rw [ew131]; exact hP
                              have hM : mK ca K w0 ((((mAo t9 k9 p9 σ).sThrown 1).sTapeSize 0).sError 9) B w131 := by rw [ew131]; exact hM.put 0 (by decide) rfl
                              have h132 : w131 (K 0) = some (.inr (7, [.int 1, .ref (K 1), .ref (K 2), .ref (K 3), .ref (K 4), .ref (K 5), .ref (K 6), .ref (K 7), .ref (K 8), .ref (K 9), .ref (K 10), .ref (K 11), .ref (K 12), .int 0, .ref (K 13), .int 9, .int (σ.off), .int (σ.ins), .int (nI (σ.sc)), .int (nI (σ.ec)), .int (nI (σ.en)), .int (σ.tr), .int (nI (σ.lo)), .int (σ.wr), .int (nI (σ.due))])) := by rw [ew131]; exact hv_up_s
                              refine lv_iload hx hb d_Model_property_298 (lv_at hl 0 rfl) ?_
                              refine lv_if_ne (tgt := 312) hx hb d_Model_property_300 (by decide) (fun c300 => ?_) (fun c300 => ?_)
                              · refine lv_iconst (v := 0) hx hb d_Model_property_312 (by decide) ?_
                                exact hv_zret (v := 0) hQ hx hb hr (by decide) hZ hS hP hlocks d_Model_property_313 (mRet.of (r' := (((σ.sTape []).sErr 9), 1, 0)) (by rw [x_property, cif_pos c4, hf]; dsimp only; rw [cif_pos hok, cif_neg c105, cif_pos c78, x_put, cif_neg (fun z => absurd (hpk.symm.trans z) (by decide)), cif_neg (fun z => absurd (hpk.symm.trans z) (by decide)), cif_pos (show 249 ≤ (σ.sTape []).ec + (σ.sTape []).sc from h249)]) (fun z9 => absurd z9 (show ¬ (1 : Nat) = 0 by decide)) hM (((hRel.err 9).thr 1).tape0) rfl)
                              · exact absurd c300 (by decide)
                          · exact absurd c191 (by decide)
                      · have hpk : x_pk t.ps (y, kd, (nI σ.tape.length).toInt64, σ.tape) = 1 := by rw [x_pk_n hgl]; exact if_pos (by omega)
                        refine lv_iconst (v := 1) hx hb d_Model_property_177 (by decide) ?_
                        refine lv_goto (tgt := 182) hx hb d_Model_property_178 (by decide) ?_
                        refine lv_iload hx hb d_Model_property_182 (lv_at hl 0 rfl) ?_
                        refine hv_call (hv_runV (As := [.int 0, .int 0, .int 0, .int 1, .int 1]) (rest := []) (c_Model_fails C 0 0 0 1 1 hM (by show σ.ec + σ.sc ≤ 249; omega)) (hv_cw C hZ kc_Model_fails kn_Model ⟨rfl, rfl, Nat.le_of_ble_eq_true rfl, Nat.le_of_ble_eq_true rfl⟩) hv_blind (hv_pre hZ hS hP) hx hml hb hown (hts _ k_Model_116) (hts _ ki_Model_fails) (hts _ ksel_Model_Model_fails) hy_Model_fails (hts _ kc_Model_fails) (va_recv hK (hv_one hP h1) (ci := 7) (q0 := 0) rfl rfl) rfl hl.1 rfl (lv_room (Nat.le_of_ble_eq_true rfl)) d_Model_property_184 ⟨Nat.le_of_ble_eq_true rfl, Nat.le_of_ble_eq_true rfl⟩) hZ hS (fun v9 w133 H locs q134 hP hS => ?_) (fun x9 w133 H locs q134 hP hS => q134.elim)
                        rcases q134 with ⟨ho9, hv9, hM⟩ | ⟨ho9, he9, hv9, hM⟩ | ⟨ho9, he9, hv9, hM⟩
                        · exact absurd c4 ho9
                        · exact absurd ((show m_fe (mAo t9 k9 p9 σ).earlier (mAo t9 k9 p9 σ).changes 0 0 0 1 1 = 6 by rw [m_fe, if_neg (by decide), if_neg (by decide), if_neg (by decide), if_pos (by decide)]).symm.trans he9) (by decide)
                        · rw [show m_fe (mAo t9 k9 p9 σ).earlier (mAo t9 k9 p9 σ).changes 0 0 0 1 1 = 6 by rw [m_fe, if_neg (by decide), if_neg (by decide), if_neg (by decide), if_pos (by decide)]] at hM
                          subst hv9
                          show W _ _ _ _ _ _ _ _ _ _ _ _ _ _ _ (F0 m 187 ls [.int 1])
                          refine lv_istore (lv' := [(13, .int 1), (12, .int 1), (10, .long ((nI (σ.tape.length)).toInt64)), (9, .int ((-1))), (8, .int 0), (7, .int (nI i)), (0, .ref (K 0)), (1, .int k), (2, .int n), (3, .int y), (4, .int kd), (5, .long x)]) hx hb d_Model_property_187 hl (by decide) rfl (fun ls hl => ?_)
                          refine lv_iload hx hb d_Model_property_189 (lv_at hl 0 rfl) ?_
                          refine lv_if_ne (tgt := 275) hx hb d_Model_property_191 (by decide) (fun c191 => ?_) (fun c191 => ?_)
                          · refine lv_aload_n hx hb d_Model_property_275 rfl (lv_at hl 6 rfl) ?_
                            refine lv_iload hx hb d_Model_property_276 (lv_at hl 10 rfl) ?_
                            refine lv_iconst (v := 3) hx hb d_Model_property_278 (by decide) ?_
                            refine lv_icmp_ne (tgt := 291) hx hb d_Model_property_279 (by decide) (fun c279 => ?_) (fun c279 => ?_)
                            · exact absurd c78 c279
                            · refine lv_iload hx hb d_Model_property_282 (lv_at hl 5 rfl) ?_
                              refine gk_if_lt (x := i) (tgt := 291) hx hb d_Model_property_284 (by decide) (by omega) ?_
                              refine lv_iconst (v := 0) hx hb d_Model_property_287 (by decide) ?_
                              refine lv_goto (tgt := 295) hx hb d_Model_property_288 (by decide) ?_
                              have h135 : w133 (K 0) = some (.inr (7, [.int 1, .ref (K 1), .ref (K 2), .ref (K 3), .ref (K 4), .ref (K 5), .ref (K 6), .ref (K 7), .ref (K 8), .ref (K 9), .ref (K 10), .ref (K 11), .ref (K 12), .int (nI (σ.tape.length)), .ref (K 13), .int 6, .int (σ.off), .int (σ.ins), .int (nI (σ.sc)), .int (nI (σ.ec)), .int (nI (σ.en)), .int (σ.tr), .int (nI (σ.lo)), .int (σ.wr), .int (nI (σ.due))])) := hM.1.2 0 (by decide)
                              refine hv_put (D := D) (ci := 7) (v := .int 0) (ty := .int) (C := R_Model) (T := F_Model) (N := 25) hx hb hts i_Model t_Model t_Model_ok n_Model hown hK hP hS h135 rfl 13 (by decide) (hts _ k_Model_103) (fun _ h9 => h9) rfl (by decide +kernel) rfl rfl (Nat.le_of_ble_eq_true rfl) d_Model_property_295 (fun H locs hP hS => ?_)
                              obtain ⟨w136, ew136⟩ : ∃ z9 : hv_W, z9 = va_up w133 (K 0) (some (.inr (7, [.int 1, .ref (K 1), .ref (K 2), .ref (K 3), .ref (K 4), .ref (K 5), .ref (K 6), .ref (K 7), .ref (K 8), .ref (K 9), .ref (K 10), .ref (K 11), .ref (K 12), .int 0, .ref (K 13), .int 6, .int (σ.off), .int (σ.ins), .int (nI (σ.sc)), .int (nI (σ.ec)), .int (nI (σ.en)), .int (σ.tr), .int (nI (σ.lo)), .int (σ.wr), .int (nI (σ.due))]))) := ⟨_, rfl⟩
                              have hP : hv_P D classes s0.heap.size w136 H := by rw [ew136]; exact hP
                              have hM : mK ca K w0 ((((mAo t9 k9 p9 σ).sThrown 1).sTapeSize 0).sError 6) B w136 := by rw [ew136]; exact hM.put 0 (by decide) rfl
                              have h137 : w136 (K 0) = some (.inr (7, [.int 1, .ref (K 1), .ref (K 2), .ref (K 3), .ref (K 4), .ref (K 5), .ref (K 6), .ref (K 7), .ref (K 8), .ref (K 9), .ref (K 10), .ref (K 11), .ref (K 12), .int 0, .ref (K 13), .int 6, .int (σ.off), .int (σ.ins), .int (nI (σ.sc)), .int (nI (σ.ec)), .int (nI (σ.en)), .int (σ.tr), .int (nI (σ.lo)), .int (σ.wr), .int (nI (σ.due))])) := by rw [ew136]; exact hv_up_s
                              refine lv_iload hx hb d_Model_property_298 (lv_at hl 0 rfl) ?_
                              refine lv_if_ne (tgt := 312) hx hb d_Model_property_300 (by decide) (fun c300 => ?_) (fun c300 => ?_)
                              · refine lv_iconst (v := 0) hx hb d_Model_property_312 (by decide) ?_
                                exact hv_zret (v := 0) hQ hx hb hr (by decide) hZ hS hP hlocks d_Model_property_313 (mRet.of (r' := (((σ.sTape []).sErr 6), 1, 0)) (by rw [x_property, cif_pos c4, hf]; dsimp only; rw [cif_pos hok, cif_neg c105, cif_pos c78, x_put, cif_neg (fun z => absurd (hpk.symm.trans z) (by decide)), cif_pos hpk]) (fun z9 => absurd z9 (show ¬ (1 : Nat) = 0 by decide)) hM (((hRel.err 6).thr 1).tape0) rfl)
                              · exact absurd c300 (by decide)
                          · exact absurd c191 (by decide)
                · exact absurd c118 (by decide)
              · exact absurd (c78.symm.trans c105) (by decide)
      have jB : (¬ x_okv kd x) → ∀ (H : Heap) (locs : List Loc) (ls : Array Slot), hv_P D classes s0.heap.size w H → va_S (hv_A s0.heap.size) s.heap H locs → lv_has ls 15 [(7, .int (nI i)), (0, .ref (K 0)), (1, .int k), (2, .int n), (3, .int y), (4, .int kd), (5, .long x)] → W p l e rm_Model_property s m ([.ref (K 0), .int k, .int n, .int y, .int kd, .long x] : List Value).toArray below meth c H locs 0 0 Q (F0 m 55 ls [.int 1]) := by
        intro hok H locs ls hP hS hl
        refine lv_istore (lv' := [(8, .int 1), (7, .int (nI i)), (0, .ref (K 0)), (1, .int k), (2, .int n), (3, .int y), (4, .int kd), (5, .long x)]) hx hb d_Model_property_55 hl (by decide) rfl (fun ls hl => ?_)
        refine lv_iload hx hb d_Model_property_57 (lv_at hl 1 rfl) ?_
        refine gk_if_ge (x := i) (tgt := 66) hx hb d_Model_property_59 (by decide) (by omega) ?_
        refine lv_aload_n hx hb d_Model_property_66 rfl (lv_at hl 2 rfl) ?_
        refine lv_iload hx hb d_Model_property_67 (lv_at hl 1 rfl) ?_
        refine lv_iload_n hx hb d_Model_property_69 rfl (lv_at hl 5 rfl) ?_
        refine hv_call (hv_runV (As := [.int (nI i), .int y]) (rest := []) (c_Model_propertyOf C y (by omega) hM hat9.2.1 hw.2.2.1 hw.2.2.2.1) (hv_cw C hZ kc_Model_propertyOf kn_Model ⟨rfl, rfl, Nat.le_of_ble_eq_true rfl, Nat.le_of_ble_eq_true rfl⟩) hv_blind (hv_pre hZ hS hP) hx hml hb hown (hts _ k_Model_130) (hts _ ki_Model_propertyOf) (hts _ ksel_Model_Model_propertyOf) hy_Model_propertyOf (hts _ kc_Model_propertyOf) (va_recv hK (hv_one hP h1) (ci := 7) (q0 := 0) rfl rfl) rfl hl.1 rfl (lv_room (Nat.le_of_ble_eq_true rfl)) d_Model_property_70 ⟨Nat.le_of_ble_eq_true rfl, Nat.le_of_ble_eq_true rfl⟩) hZ hS (fun v9 w138 H locs q139 hP hS => ?_) (fun x9 w138 H locs q139 hP hS => q139.elim)
        obtain ⟨hv9, hw9⟩ := q139
        subst hv9
        rw [hw9] at hP
        show W _ _ _ _ _ _ _ _ _ _ _ _ _ _ _ (F0 m 73 ls [.int (m_pos i t.ps y)])
        refine lv_istore (lv' := [(9, .int (m_pos i t.ps y)), (8, .int 1), (7, .int (nI i)), (0, .ref (K 0)), (1, .int k), (2, .int n), (3, .int y), (4, .int kd), (5, .long x)]) hx hb d_Model_property_73 hl (by decide) rfl (fun ls hl => ?_)
        refine lv_iload hx hb d_Model_property_75 (lv_at hl 7 rfl) ?_
        refine lv_iconst (v := 3) hx hb d_Model_property_77 (by decide) ?_
        refine lv_icmp_ne (tgt := 89) hx hb d_Model_property_78 (by decide) (fun c78 => ?_) (fun c78 => ?_)
        · refine lv_lload hx hb d_Model_property_89 (lv_at hl 8 rfl) ?_
          refine lv_lstore (lv' := [(10, .long x), (9, .int (m_pos i t.ps y)), (8, .int 1), (7, .int (nI i)), (0, .ref (K 0)), (1, .int k), (2, .int n), (3, .int y), (4, .int kd), (5, .long x)]) hx hb d_Model_property_91 hl (by decide) rfl (fun ls hl => ?_)
          refine lv_iload hx hb d_Model_property_93 (lv_at hl 3 rfl) ?_
          refine gk_if_lt (x := i) (tgt := 138) hx hb d_Model_property_95 (by decide) (by omega) ?_
          refine lv_iload hx hb d_Model_property_98 (lv_at hl 2 rfl) ?_
          refine lv_if_ne (tgt := 138) hx hb d_Model_property_100 (by decide) (fun c100 => ?_) (fun c100 => ?_)
          · refine lv_iconst (v := 0) hx hb d_Model_property_138 (by decide) ?_
            refine lv_istore (lv' := [(12, .int 0), (10, .long x), (9, .int (m_pos i t.ps y)), (8, .int 1), (7, .int (nI i)), (0, .ref (K 0)), (1, .int k), (2, .int n), (3, .int y), (4, .int kd), (5, .long x)]) hx hb d_Model_property_139 hl (by decide) rfl (fun ls hl => ?_)
            refine lv_aload_n hx hb d_Model_property_141 rfl (lv_at hl 5 rfl) ?_
            refine lv_iload hx hb d_Model_property_142 (lv_at hl 4 rfl) ?_
            refine gk_if_ge (x := i) (tgt := 151) hx hb d_Model_property_144 (by decide) (by omega) ?_
            refine lv_iconst (v := 0) hx hb d_Model_property_151 (by decide) ?_
            refine lv_iload hx hb d_Model_property_152 (lv_at hl 3 rfl) ?_
            refine lv_iconst (v := 0) hx hb d_Model_property_154 (by decide) ?_
            refine lv_iload hx hb d_Model_property_155 (lv_at hl 0 rfl) ?_
            refine lv_if_eq (tgt := 181) hx hb d_Model_property_157 (by decide) (fun c157 => ?_) (fun c157 => ?_)
            · refine lv_iconst (v := 0) hx hb d_Model_property_181 (by decide) ?_
              refine lv_iload hx hb d_Model_property_182 (lv_at hl 0 rfl) ?_
              refine hv_call (hv_runV (As := [.int 0, .int 1, .int 0, .int 0, .int 0]) (rest := []) (c_Model_fails C 0 1 0 0 0 hM (by show σ.ec + σ.sc ≤ 249; omega)) (hv_cw C hZ kc_Model_fails kn_Model ⟨rfl, rfl, Nat.le_of_ble_eq_true rfl, Nat.le_of_ble_eq_true rfl⟩) hv_blind (hv_pre hZ hS hP) hx hml hb hown (hts _ k_Model_116) (hts _ ki_Model_fails) (hts _ ksel_Model_Model_fails) hy_Model_fails (hts _ kc_Model_fails) (va_recv hK (hv_one hP h1) (ci := 7) (q0 := 0) rfl rfl) rfl hl.1 rfl (lv_room (Nat.le_of_ble_eq_true rfl)) d_Model_property_184 ⟨Nat.le_of_ble_eq_true rfl, Nat.le_of_ble_eq_true rfl⟩) hZ hS (fun v9 w140 H locs q141 hP hS => ?_) (fun x9 w140 H locs q141 hP hS => q141.elim)
              rcases q141 with ⟨ho9, hv9, hM⟩ | ⟨ho9, he9, hv9, hM⟩ | ⟨ho9, he9, hv9, hM⟩
              · exact absurd c4 ho9
              · exact absurd ((show m_fe (mAo t9 k9 p9 σ).earlier (mAo t9 k9 p9 σ).changes 0 1 0 0 0 = 2 by rw [m_fe, if_neg (by decide), if_pos (by decide)]).symm.trans he9) (by decide)
              · rw [show m_fe (mAo t9 k9 p9 σ).earlier (mAo t9 k9 p9 σ).changes 0 1 0 0 0 = 2 by rw [m_fe, if_neg (by decide), if_pos (by decide)]] at hM
                subst hv9
                show W _ _ _ _ _ _ _ _ _ _ _ _ _ _ _ (F0 m 187 ls [.int 1])
                refine lv_istore (lv' := [(13, .int 1), (12, .int 0), (10, .long x), (9, .int (m_pos i t.ps y)), (8, .int 1), (7, .int (nI i)), (0, .ref (K 0)), (1, .int k), (2, .int n), (3, .int y), (4, .int kd), (5, .long x)]) hx hb d_Model_property_187 hl (by decide) rfl (fun ls hl => ?_)
                refine lv_iload hx hb d_Model_property_189 (lv_at hl 0 rfl) ?_
                refine lv_if_ne (tgt := 275) hx hb d_Model_property_191 (by decide) (fun c191 => ?_) (fun c191 => ?_)
                · refine lv_aload_n hx hb d_Model_property_275 rfl (lv_at hl 6 rfl) ?_
                  refine lv_iload hx hb d_Model_property_276 (lv_at hl 10 rfl) ?_
                  refine lv_iconst (v := 3) hx hb d_Model_property_278 (by decide) ?_
                  refine lv_icmp_ne (tgt := 291) hx hb d_Model_property_279 (by decide) (fun c279 => ?_) (fun c279 => ?_)
                  · refine lv_aload_n hx hb d_Model_property_291 rfl (lv_at hl 6 rfl) ?_
                    have h142 : w140 (K 0) = some (.inr (7, [.int 1, .ref (K 1), .ref (K 2), .ref (K 3), .ref (K 4), .ref (K 5), .ref (K 6), .ref (K 7), .ref (K 8), .ref (K 9), .ref (K 10), .ref (K 11), .ref (K 12), .int (nI (σ.tape.length)), .ref (K 13), .int 2, .int (σ.off), .int (σ.ins), .int (nI (σ.sc)), .int (nI (σ.ec)), .int (nI (σ.en)), .int (σ.tr), .int (nI (σ.lo)), .int (σ.wr), .int (nI (σ.due))])) := hM.1.2 0 (by decide)
                    refine va_get (D := D) (ci := 7) (v := .int (nI (σ.tape.length))) (C := R_Model) (T := F_Model) (N := 25) hx hb hts i_Model hown hK (hv_one hP h142) 0 rfl rfl 13 (by decide) (hts _ k_Model_103) (fun _ h9 => h9) rfl d_Model_property_292 ?_
                    refine hv_put (D := D) (ci := 7) (v := .int (nI (σ.tape.length))) (ty := .int) (C := R_Model) (T := F_Model) (N := 25) hx hb hts i_Model t_Model t_Model_ok n_Model hown hK hP hS h142 rfl 13 (by decide) (hts _ k_Model_103) (fun _ h9 => h9) rfl (by decide +kernel) rfl rfl (Nat.le_of_ble_eq_true rfl) d_Model_property_295 (fun H locs hP hS => ?_)
                    obtain ⟨w143, ew143⟩ : ∃ z9 : hv_W, z9 = va_up w140 (K 0) (some (.inr (7, [.int 1, .ref (K 1), .ref (K 2), .ref (K 3), .ref (K 4), .ref (K 5), .ref (K 6), .ref (K 7), .ref (K 8), .ref (K 9), .ref (K 10), .ref (K 11), .ref (K 12), .int (nI (σ.tape.length)), .ref (K 13), .int 2, .int (σ.off), .int (σ.ins), .int (nI (σ.sc)), .int (nI (σ.ec)), .int (nI (σ.en)), .int (σ.tr), .int (nI (σ.lo)), .int (σ.wr), .int (nI (σ.due))]))) := ⟨_, rfl⟩
                    have hP : hv_P D classes s0.heap.size w143 H := by rw [ew143]; exact hP
                    have hM : mK ca K w0 (((mAo t9 k9 p9 σ).sThrown 1).sError 2) B w143 := by rw [ew143]; exact hM.put 0 (by decide) rfl
                    have h144 : w143 (K 0) = some (.inr (7, [.int 1, .ref (K 1), .ref (K 2), .ref (K 3), .ref (K 4), .ref (K 5), .ref (K 6), .ref (K 7), .ref (K 8), .ref (K 9), .ref (K 10), .ref (K 11), .ref (K 12), .int (nI (σ.tape.length)), .ref (K 13), .int 2, .int (σ.off), .int (σ.ins), .int (nI (σ.sc)), .int (nI (σ.ec)), .int (nI (σ.en)), .int (σ.tr), .int (nI (σ.lo)), .int (σ.wr), .int (nI (σ.due))])) := by rw [ew143]; exact hv_up_s
                    refine lv_iload hx hb d_Model_property_298 (lv_at hl 0 rfl) ?_
                    refine lv_if_ne (tgt := 312) hx hb d_Model_property_300 (by decide) (fun c300 => ?_) (fun c300 => ?_)
                    · refine lv_iconst (v := 0) hx hb d_Model_property_312 (by decide) ?_
                      exact hv_zret (v := 0) hQ hx hb hr (by decide) hZ hS hP hlocks d_Model_property_313 (mRet.of (r' := ((σ.sErr 2), 1, 0)) (by rw [x_property, cif_pos c4, hf]; dsimp only; rw [cif_neg hok]) (fun z9 => absurd z9 (show ¬ (1 : Nat) = 0 by decide)) hM (((hRel.err 2).thr 1).tp rfl) rfl)
                    · exact absurd c300 (by decide)
                  · exact absurd c279 c78
                · exact absurd c191 (by decide)
            · exact absurd c157 (by decide)
          · exact absurd c100 (by decide)
        · exact absurd (x_okv3 c78 x) hok
      refine lv_iload hx hb d_Model_property_19 (lv_at hl 5 rfl) ?_
      refine lv_if_lt (tgt := 50) hx hb d_Model_property_21 (by decide) (fun c21 => ?_) (fun c21 => ?_)
      · refine lv_iconst (v := 1) hx hb d_Model_property_50 (by decide) ?_
        refine lv_goto (tgt := 55) hx hb d_Model_property_51 (by decide) ?_
        exact jB (fun z => z.1 c21) _ _ _ hP hS hl
      · refine lv_iload hx hb d_Model_property_24 (lv_at hl 5 rfl) ?_
        refine lv_iconst (v := 3) hx hb d_Model_property_26 (by decide) ?_
        refine lv_icmp_gt (tgt := 50) hx hb d_Model_property_27 (by decide) (fun c27 => ?_) (fun c27 => ?_)
        · refine lv_iconst (v := 1) hx hb d_Model_property_50 (by decide) ?_
          refine lv_goto (tgt := 55) hx hb d_Model_property_51 (by decide) ?_
          exact jB (fun z => z.2.1 c27) _ _ _ hP hS hl
        · refine lv_iload hx hb d_Model_property_30 (lv_at hl 5 rfl) ?_
          refine lv_iconst (v := 2) hx hb d_Model_property_32 (by decide) ?_
          refine lv_icmp_ne (tgt := 54) hx hb d_Model_property_33 (by decide) (fun c33 => ?_) (fun c33 => ?_)
          · refine lv_iconst (v := 0) hx hb d_Model_property_54 (by decide) ?_
            exact jA ⟨c21, c27, fun z => absurd z c33⟩ _ _ _ hP hS hl
          · refine lv_lload hx hb d_Model_property_36 (lv_at hl 6 rfl) ?_
            refine lv_lconst (v := 0) hx hb d_Model_property_38 (by decide) ?_
            refine W.lcmp hx hb d_Model_property_39 ?_
            refine lv_if_eq (tgt := 54) hx hb d_Model_property_40 (by decide) (fun c40 => ?_) (fun c40 => ?_)
            · refine lv_iconst (v := 0) hx hb d_Model_property_54 (by decide) ?_
              exact jA ⟨c21, c27, fun _ => Or.inl (g_lcmp_eq c40)⟩ _ _ _ hP hS hl
            · refine lv_lload hx hb d_Model_property_43 (lv_at hl 6 rfl) ?_
              refine lv_lconst (v := 1) hx hb d_Model_property_45 (by decide) ?_
              refine W.lcmp hx hb d_Model_property_46 ?_
              refine lv_if_eq (tgt := 54) hx hb d_Model_property_47 (by decide) (fun c47 => ?_) (fun c47 => ?_)
              · refine lv_iconst (v := 0) hx hb d_Model_property_54 (by decide) ?_
                exact jA ⟨c21, c27, fun _ => Or.inr (g_lcmp_eq c47)⟩ _ _ _ hP hS hl
              · refine lv_iconst (v := 1) hx hb d_Model_property_50 (by decide) ?_
                refine lv_goto (tgt := 55) hx hb d_Model_property_51 (by decide) ?_
                exact jB (fun z => (z.2.2 c33).elim (fun q => c40 (by rw [q]; exact g_lcmp_refl 0)) (fun q => c47 (by rw [q]; exact g_lcmp_refl 1))) _ _ _ hP hS hl
  · refine lv_iconst (v := (-1)) hx hb d_Model_property_7 (by decide) ?_
    refine lv_goto (tgt := 17) hx hb d_Model_property_8 (by decide) ?_
    refine lv_istore (lv' := [(7, .int ((-1))), (0, .ref (K 0)), (1, .int k), (2, .int n), (3, .int y), (4, .int kd), (5, .long x)]) hx hb d_Model_property_17 hl (by decide) rfl (fun ls hl => ?_)
    have jA : (x_okv kd x) → ∀ (H : Heap) (locs : List Loc) (ls : Array Slot), hv_P D classes s0.heap.size w H → va_S (hv_A s0.heap.size) s.heap H locs → lv_has ls 15 [(7, .int ((-1))), (0, .ref (K 0)), (1, .int k), (2, .int n), (3, .int y), (4, .int kd), (5, .long x)] → W p l e rm_Model_property s m ([.ref (K 0), .int k, .int n, .int y, .int kd, .long x] : List Value).toArray below meth c H locs 0 0 Q (F0 m 55 ls [.int 0]) := by
      intro hok H locs ls hP hS hl
      refine lv_istore (lv' := [(8, .int 0), (7, .int ((-1))), (0, .ref (K 0)), (1, .int k), (2, .int n), (3, .int y), (4, .int kd), (5, .long x)]) hx hb d_Model_property_55 hl (by decide) rfl (fun ls hl => ?_)
      refine lv_iload hx hb d_Model_property_57 (lv_at hl 1 rfl) ?_
      refine lv_if_ge (tgt := 66) hx hb d_Model_property_59 (by decide) (fun c59 => ?_) (fun c59 => ?_)
      · exact absurd c59 (by decide)
      · refine lv_iconst (v := (-1)) hx hb d_Model_property_62 (by decide) ?_
        refine lv_goto (tgt := 73) hx hb d_Model_property_63 (by decide) ?_
        refine lv_istore (lv' := [(9, .int ((-1))), (8, .int 0), (7, .int ((-1))), (0, .ref (K 0)), (1, .int k), (2, .int n), (3, .int y), (4, .int kd), (5, .long x)]) hx hb d_Model_property_73 hl (by decide) rfl (fun ls hl => ?_)
        refine lv_iload hx hb d_Model_property_75 (lv_at hl 7 rfl) ?_
        refine lv_iconst (v := 3) hx hb d_Model_property_77 (by decide) ?_
        refine lv_icmp_ne (tgt := 89) hx hb d_Model_property_78 (by decide) (fun c78 => ?_) (fun c78 => ?_)
        · refine lv_lload hx hb d_Model_property_89 (lv_at hl 8 rfl) ?_
          refine lv_lstore (lv' := [(10, .long x), (9, .int ((-1))), (8, .int 0), (7, .int ((-1))), (0, .ref (K 0)), (1, .int k), (2, .int n), (3, .int y), (4, .int kd), (5, .long x)]) hx hb d_Model_property_91 hl (by decide) rfl (fun ls hl => ?_)
          refine lv_iload hx hb d_Model_property_93 (lv_at hl 3 rfl) ?_
          refine lv_if_lt (tgt := 138) hx hb d_Model_property_95 (by decide) (fun c95 => ?_) (fun c95 => ?_)
          · refine lv_iconst (v := 0) hx hb d_Model_property_138 (by decide) ?_
            refine lv_istore (lv' := [(12, .int 0), (10, .long x), (9, .int ((-1))), (8, .int 0), (7, .int ((-1))), (0, .ref (K 0)), (1, .int k), (2, .int n), (3, .int y), (4, .int kd), (5, .long x)]) hx hb d_Model_property_139 hl (by decide) rfl (fun ls hl => ?_)
            refine lv_aload_n hx hb d_Model_property_141 rfl (lv_at hl 5 rfl) ?_
            refine lv_iload hx hb d_Model_property_142 (lv_at hl 4 rfl) ?_
            refine lv_if_ge (tgt := 151) hx hb d_Model_property_144 (by decide) (fun c144 => ?_) (fun c144 => ?_)
            · exact absurd c144 (by decide)
            · refine lv_iconst (v := 1) hx hb d_Model_property_147 (by decide) ?_
              refine lv_goto (tgt := 152) hx hb d_Model_property_148 (by decide) ?_
              refine lv_iload hx hb d_Model_property_152 (lv_at hl 3 rfl) ?_
              refine lv_iconst (v := 0) hx hb d_Model_property_154 (by decide) ?_
              refine lv_iload hx hb d_Model_property_155 (lv_at hl 0 rfl) ?_
              refine lv_if_eq (tgt := 181) hx hb d_Model_property_157 (by decide) (fun c157 => ?_) (fun c157 => ?_)
              · refine lv_iconst (v := 0) hx hb d_Model_property_181 (by decide) ?_
                refine lv_iload hx hb d_Model_property_182 (lv_at hl 0 rfl) ?_
                refine hv_call (hv_runV (As := [.int 1, .int 0, .int 0, .int 0, .int 0]) (rest := []) (c_Model_fails C 1 0 0 0 0 hM (by show σ.ec + σ.sc ≤ 249; omega)) (hv_cw C hZ kc_Model_fails kn_Model ⟨rfl, rfl, Nat.le_of_ble_eq_true rfl, Nat.le_of_ble_eq_true rfl⟩) hv_blind (hv_pre hZ hS hP) hx hml hb hown (hts _ k_Model_116) (hts _ ki_Model_fails) (hts _ ksel_Model_Model_fails) hy_Model_fails (hts _ kc_Model_fails) (va_recv hK (hv_one hP h1) (ci := 7) (q0 := 0) rfl rfl) rfl hl.1 rfl (lv_room (Nat.le_of_ble_eq_true rfl)) d_Model_property_184 ⟨Nat.le_of_ble_eq_true rfl, Nat.le_of_ble_eq_true rfl⟩) hZ hS (fun v9 w145 H locs q146 hP hS => ?_) (fun x9 w145 H locs q146 hP hS => q146.elim)
                rcases q146 with ⟨ho9, hv9, hM⟩ | ⟨ho9, he9, hv9, hM⟩ | ⟨ho9, he9, hv9, hM⟩
                · subst hv9
                  show W _ _ _ _ _ _ _ _ _ _ _ _ _ _ _ (F0 m 187 ls [.int 1])
                  refine lv_istore (lv' := [(13, .int 1), (12, .int 0), (10, .long x), (9, .int ((-1))), (8, .int 0), (7, .int ((-1))), (0, .ref (K 0)), (1, .int k), (2, .int n), (3, .int y), (4, .int kd), (5, .long x)]) hx hb d_Model_property_187 hl (by decide) rfl (fun ls hl => ?_)
                  refine lv_iload hx hb d_Model_property_189 (lv_at hl 0 rfl) ?_
                  refine lv_if_ne (tgt := 275) hx hb d_Model_property_191 (by decide) (fun c191 => ?_) (fun c191 => ?_)
                  · refine lv_aload_n hx hb d_Model_property_275 rfl (lv_at hl 6 rfl) ?_
                    refine lv_iload hx hb d_Model_property_276 (lv_at hl 10 rfl) ?_
                    refine lv_iconst (v := 3) hx hb d_Model_property_278 (by decide) ?_
                    refine lv_icmp_ne (tgt := 291) hx hb d_Model_property_279 (by decide) (fun c279 => ?_) (fun c279 => ?_)
                    · refine lv_aload_n hx hb d_Model_property_291 rfl (lv_at hl 6 rfl) ?_
                      have h147 : w145 (K 0) = some (.inr (7, [.int 2, .ref (K 1), .ref (K 2), .ref (K 3), .ref (K 4), .ref (K 5), .ref (K 6), .ref (K 7), .ref (K 8), .ref (K 9), .ref (K 10), .ref (K 11), .ref (K 12), .int (nI (σ.tape.length)), .ref (K 13), .int (σ.err), .int (σ.off), .int (σ.ins), .int (nI (σ.sc)), .int (nI (σ.ec)), .int (nI (σ.en)), .int (σ.tr), .int (nI (σ.lo)), .int (σ.wr), .int (nI (σ.due))])) := hM.1.2 0 (by decide)
                      refine va_get (D := D) (ci := 7) (v := .int (nI (σ.tape.length))) (C := R_Model) (T := F_Model) (N := 25) hx hb hts i_Model hown hK (hv_one hP h147) 0 rfl rfl 13 (by decide) (hts _ k_Model_103) (fun _ h9 => h9) rfl d_Model_property_292 ?_
                      refine hv_put (D := D) (ci := 7) (v := .int (nI (σ.tape.length))) (ty := .int) (C := R_Model) (T := F_Model) (N := 25) hx hb hts i_Model t_Model t_Model_ok n_Model hown hK hP hS h147 rfl 13 (by decide) (hts _ k_Model_103) (fun _ h9 => h9) rfl (by decide +kernel) rfl rfl (Nat.le_of_ble_eq_true rfl) d_Model_property_295 (fun H locs hP hS => ?_)
                      obtain ⟨w148, ew148⟩ : ∃ z9 : hv_W, z9 = va_up w145 (K 0) (some (.inr (7, [.int 2, .ref (K 1), .ref (K 2), .ref (K 3), .ref (K 4), .ref (K 5), .ref (K 6), .ref (K 7), .ref (K 8), .ref (K 9), .ref (K 10), .ref (K 11), .ref (K 12), .int (nI (σ.tape.length)), .ref (K 13), .int (σ.err), .int (σ.off), .int (σ.ins), .int (nI (σ.sc)), .int (nI (σ.ec)), .int (nI (σ.en)), .int (σ.tr), .int (nI (σ.lo)), .int (σ.wr), .int (nI (σ.due))]))) := ⟨_, rfl⟩
                      have hP : hv_P D classes s0.heap.size w148 H := by rw [ew148]; exact hP
                      have hM : mK ca K w0 ((mAo t9 k9 p9 σ).sThrown 2) B w148 := by rw [ew148]; exact hM.put 0 (by decide) rfl
                      have h149 : w148 (K 0) = some (.inr (7, [.int 2, .ref (K 1), .ref (K 2), .ref (K 3), .ref (K 4), .ref (K 5), .ref (K 6), .ref (K 7), .ref (K 8), .ref (K 9), .ref (K 10), .ref (K 11), .ref (K 12), .int (nI (σ.tape.length)), .ref (K 13), .int (σ.err), .int (σ.off), .int (σ.ins), .int (nI (σ.sc)), .int (nI (σ.ec)), .int (nI (σ.en)), .int (σ.tr), .int (nI (σ.lo)), .int (σ.wr), .int (nI (σ.due))])) := by rw [ew148]; exact hv_up_s
                      refine lv_iload hx hb d_Model_property_298 (lv_at hl 0 rfl) ?_
                      refine lv_if_ne (tgt := 312) hx hb d_Model_property_300 (by decide) (fun c300 => ?_) (fun c300 => ?_)
                      · refine lv_iconst (v := 0) hx hb d_Model_property_312 (by decide) ?_
                        exact hv_zret (v := 0) hQ hx hb hr (by decide) hZ hS hP hlocks d_Model_property_313 (mRet.of (r' := (σ, 2, 0)) (by rw [x_property, cif_neg c4]) (fun z9 => absurd z9 (show ¬ (2 : Nat) = 0 by decide)) hM ((hRel.thr 2).tp rfl) rfl)
                      · exact absurd c300 (by decide)
                    · exact absurd c279 c78
                  · exact absurd c191 (by decide)
                · exact absurd ho9 c4
                · exact absurd ho9 c4
              · exact absurd c157 (by decide)
          · exact absurd c95 (by decide)
        · refine lv_aload_n hx hb d_Model_property_81 rfl (lv_at hl 3 rfl) ?_
          refine va_get (D := D) (ci := 7) (v := .int (nI (σ.tape.length))) (C := R_Model) (T := F_Model) (N := 25) hx hb hts i_Model hown hK (hv_one hP h1) 0 rfl rfl 13 (by decide) (hts _ k_Model_103) (fun _ h9 => h9) rfl d_Model_property_82 ?_
          refine lv_i2l (v := (nI (σ.tape.length)).toInt64) hx hb d_Model_property_85 rfl ?_
          refine lv_goto (tgt := 91) hx hb d_Model_property_86 (by decide) ?_
          refine lv_lstore (lv' := [(10, .long ((nI (σ.tape.length)).toInt64)), (9, .int ((-1))), (8, .int 0), (7, .int ((-1))), (0, .ref (K 0)), (1, .int k), (2, .int n), (3, .int y), (4, .int kd), (5, .long x)]) hx hb d_Model_property_91 hl (by decide) rfl (fun ls hl => ?_)
          refine lv_iload hx hb d_Model_property_93 (lv_at hl 3 rfl) ?_
          refine lv_if_lt (tgt := 138) hx hb d_Model_property_95 (by decide) (fun c95 => ?_) (fun c95 => ?_)
          · refine lv_iconst (v := 0) hx hb d_Model_property_138 (by decide) ?_
            refine lv_istore (lv' := [(12, .int 0), (10, .long ((nI (σ.tape.length)).toInt64)), (9, .int ((-1))), (8, .int 0), (7, .int ((-1))), (0, .ref (K 0)), (1, .int k), (2, .int n), (3, .int y), (4, .int kd), (5, .long x)]) hx hb d_Model_property_139 hl (by decide) rfl (fun ls hl => ?_)
            refine lv_aload_n hx hb d_Model_property_141 rfl (lv_at hl 5 rfl) ?_
            refine lv_iload hx hb d_Model_property_142 (lv_at hl 4 rfl) ?_
            refine lv_if_ge (tgt := 151) hx hb d_Model_property_144 (by decide) (fun c144 => ?_) (fun c144 => ?_)
            · exact absurd c144 (by decide)
            · refine lv_iconst (v := 1) hx hb d_Model_property_147 (by decide) ?_
              refine lv_goto (tgt := 152) hx hb d_Model_property_148 (by decide) ?_
              refine lv_iload hx hb d_Model_property_152 (lv_at hl 3 rfl) ?_
              refine lv_iconst (v := 0) hx hb d_Model_property_154 (by decide) ?_
              refine lv_iload hx hb d_Model_property_155 (lv_at hl 0 rfl) ?_
              refine lv_if_eq (tgt := 181) hx hb d_Model_property_157 (by decide) (fun c157 => ?_) (fun c157 => ?_)
              · refine lv_iconst (v := 0) hx hb d_Model_property_181 (by decide) ?_
                refine lv_iload hx hb d_Model_property_182 (lv_at hl 0 rfl) ?_
                refine hv_call (hv_runV (As := [.int 1, .int 0, .int 0, .int 0, .int 0]) (rest := []) (c_Model_fails C 1 0 0 0 0 hM (by show σ.ec + σ.sc ≤ 249; omega)) (hv_cw C hZ kc_Model_fails kn_Model ⟨rfl, rfl, Nat.le_of_ble_eq_true rfl, Nat.le_of_ble_eq_true rfl⟩) hv_blind (hv_pre hZ hS hP) hx hml hb hown (hts _ k_Model_116) (hts _ ki_Model_fails) (hts _ ksel_Model_Model_fails) hy_Model_fails (hts _ kc_Model_fails) (va_recv hK (hv_one hP h1) (ci := 7) (q0 := 0) rfl rfl) rfl hl.1 rfl (lv_room (Nat.le_of_ble_eq_true rfl)) d_Model_property_184 ⟨Nat.le_of_ble_eq_true rfl, Nat.le_of_ble_eq_true rfl⟩) hZ hS (fun v9 w150 H locs q151 hP hS => ?_) (fun x9 w150 H locs q151 hP hS => q151.elim)
                rcases q151 with ⟨ho9, hv9, hM⟩ | ⟨ho9, he9, hv9, hM⟩ | ⟨ho9, he9, hv9, hM⟩
                · subst hv9
                  show W _ _ _ _ _ _ _ _ _ _ _ _ _ _ _ (F0 m 187 ls [.int 1])
                  refine lv_istore (lv' := [(13, .int 1), (12, .int 0), (10, .long ((nI (σ.tape.length)).toInt64)), (9, .int ((-1))), (8, .int 0), (7, .int ((-1))), (0, .ref (K 0)), (1, .int k), (2, .int n), (3, .int y), (4, .int kd), (5, .long x)]) hx hb d_Model_property_187 hl (by decide) rfl (fun ls hl => ?_)
                  refine lv_iload hx hb d_Model_property_189 (lv_at hl 0 rfl) ?_
                  refine lv_if_ne (tgt := 275) hx hb d_Model_property_191 (by decide) (fun c191 => ?_) (fun c191 => ?_)
                  · refine lv_aload_n hx hb d_Model_property_275 rfl (lv_at hl 6 rfl) ?_
                    refine lv_iload hx hb d_Model_property_276 (lv_at hl 10 rfl) ?_
                    refine lv_iconst (v := 3) hx hb d_Model_property_278 (by decide) ?_
                    refine lv_icmp_ne (tgt := 291) hx hb d_Model_property_279 (by decide) (fun c279 => ?_) (fun c279 => ?_)
                    · exact absurd c78 c279
                    · refine lv_iload hx hb d_Model_property_282 (lv_at hl 5 rfl) ?_
                      refine lv_if_lt (tgt := 291) hx hb d_Model_property_284 (by decide) (fun c284 => ?_) (fun c284 => ?_)
                      · refine lv_aload_n hx hb d_Model_property_291 rfl (lv_at hl 6 rfl) ?_
                        have h152 : w150 (K 0) = some (.inr (7, [.int 2, .ref (K 1), .ref (K 2), .ref (K 3), .ref (K 4), .ref (K 5), .ref (K 6), .ref (K 7), .ref (K 8), .ref (K 9), .ref (K 10), .ref (K 11), .ref (K 12), .int (nI (σ.tape.length)), .ref (K 13), .int (σ.err), .int (σ.off), .int (σ.ins), .int (nI (σ.sc)), .int (nI (σ.ec)), .int (nI (σ.en)), .int (σ.tr), .int (nI (σ.lo)), .int (σ.wr), .int (nI (σ.due))])) := hM.1.2 0 (by decide)
                        refine va_get (D := D) (ci := 7) (v := .int (nI (σ.tape.length))) (C := R_Model) (T := F_Model) (N := 25) hx hb hts i_Model hown hK (hv_one hP h152) 0 rfl rfl 13 (by decide) (hts _ k_Model_103) (fun _ h9 => h9) rfl d_Model_property_292 ?_
                        refine hv_put (D := D) (ci := 7) (v := .int (nI (σ.tape.length))) (ty := .int) (C := R_Model) (T := F_Model) (N := 25) hx hb hts i_Model t_Model t_Model_ok n_Model hown hK hP hS h152 rfl 13 (by decide) (hts _ k_Model_103) (fun _ h9 => h9) rfl (by decide +kernel) rfl rfl (Nat.le_of_ble_eq_true rfl) d_Model_property_295 (fun H locs hP hS => ?_)
                        obtain ⟨w153, ew153⟩ : ∃ z9 : hv_W, z9 = va_up w150 (K 0) (some (.inr (7, [.int 2, .ref (K 1), .ref (K 2), .ref (K 3), .ref (K 4), .ref (K 5), .ref (K 6), .ref (K 7), .ref (K 8), .ref (K 9), .ref (K 10), .ref (K 11), .ref (K 12), .int (nI (σ.tape.length)), .ref (K 13), .int (σ.err), .int (σ.off), .int (σ.ins), .int (nI (σ.sc)), .int (nI (σ.ec)), .int (nI (σ.en)), .int (σ.tr), .int (nI (σ.lo)), .int (σ.wr), .int (nI (σ.due))]))) := ⟨_, rfl⟩
                        have hP : hv_P D classes s0.heap.size w153 H := by rw [ew153]; exact hP
                        have hM : mK ca K w0 ((mAo t9 k9 p9 σ).sThrown 2) B w153 := by rw [ew153]; exact hM.put 0 (by decide) rfl
                        have h154 : w153 (K 0) = some (.inr (7, [.int 2, .ref (K 1), .ref (K 2), .ref (K 3), .ref (K 4), .ref (K 5), .ref (K 6), .ref (K 7), .ref (K 8), .ref (K 9), .ref (K 10), .ref (K 11), .ref (K 12), .int (nI (σ.tape.length)), .ref (K 13), .int (σ.err), .int (σ.off), .int (σ.ins), .int (nI (σ.sc)), .int (nI (σ.ec)), .int (nI (σ.en)), .int (σ.tr), .int (nI (σ.lo)), .int (σ.wr), .int (nI (σ.due))])) := by rw [ew153]; exact hv_up_s
                        refine lv_iload hx hb d_Model_property_298 (lv_at hl 0 rfl) ?_
                        refine lv_if_ne (tgt := 312) hx hb d_Model_property_300 (by decide) (fun c300 => ?_) (fun c300 => ?_)
                        · refine lv_iconst (v := 0) hx hb d_Model_property_312 (by decide) ?_
                          exact hv_zret (v := 0) hQ hx hb hr (by decide) hZ hS hP hlocks d_Model_property_313 (mRet.of (r' := (σ, 2, 0)) (by rw [x_property, cif_neg c4]) (fun z9 => absurd z9 (show ¬ (2 : Nat) = 0 by decide)) hM ((hRel.thr 2).tp rfl) rfl)
                        · exact absurd c300 (by decide)
                      · exact absurd c284 (by decide)
                  · exact absurd c191 (by decide)
                · exact absurd ho9 c4
                · exact absurd ho9 c4
              · exact absurd c157 (by decide)
          · exact absurd c95 (by decide)
    have jB : (¬ x_okv kd x) → ∀ (H : Heap) (locs : List Loc) (ls : Array Slot), hv_P D classes s0.heap.size w H → va_S (hv_A s0.heap.size) s.heap H locs → lv_has ls 15 [(7, .int ((-1))), (0, .ref (K 0)), (1, .int k), (2, .int n), (3, .int y), (4, .int kd), (5, .long x)] → W p l e rm_Model_property s m ([.ref (K 0), .int k, .int n, .int y, .int kd, .long x] : List Value).toArray below meth c H locs 0 0 Q (F0 m 55 ls [.int 1]) := by
      intro hok H locs ls hP hS hl
      refine lv_istore (lv' := [(8, .int 1), (7, .int ((-1))), (0, .ref (K 0)), (1, .int k), (2, .int n), (3, .int y), (4, .int kd), (5, .long x)]) hx hb d_Model_property_55 hl (by decide) rfl (fun ls hl => ?_)
      refine lv_iload hx hb d_Model_property_57 (lv_at hl 1 rfl) ?_
      refine lv_if_ge (tgt := 66) hx hb d_Model_property_59 (by decide) (fun c59 => ?_) (fun c59 => ?_)
      · exact absurd c59 (by decide)
      · refine lv_iconst (v := (-1)) hx hb d_Model_property_62 (by decide) ?_
        refine lv_goto (tgt := 73) hx hb d_Model_property_63 (by decide) ?_
        refine lv_istore (lv' := [(9, .int ((-1))), (8, .int 1), (7, .int ((-1))), (0, .ref (K 0)), (1, .int k), (2, .int n), (3, .int y), (4, .int kd), (5, .long x)]) hx hb d_Model_property_73 hl (by decide) rfl (fun ls hl => ?_)
        refine lv_iload hx hb d_Model_property_75 (lv_at hl 7 rfl) ?_
        refine lv_iconst (v := 3) hx hb d_Model_property_77 (by decide) ?_
        refine lv_icmp_ne (tgt := 89) hx hb d_Model_property_78 (by decide) (fun c78 => ?_) (fun c78 => ?_)
        · refine lv_lload hx hb d_Model_property_89 (lv_at hl 8 rfl) ?_
          refine lv_lstore (lv' := [(10, .long x), (9, .int ((-1))), (8, .int 1), (7, .int ((-1))), (0, .ref (K 0)), (1, .int k), (2, .int n), (3, .int y), (4, .int kd), (5, .long x)]) hx hb d_Model_property_91 hl (by decide) rfl (fun ls hl => ?_)
          refine lv_iload hx hb d_Model_property_93 (lv_at hl 3 rfl) ?_
          refine lv_if_lt (tgt := 138) hx hb d_Model_property_95 (by decide) (fun c95 => ?_) (fun c95 => ?_)
          · refine lv_iconst (v := 0) hx hb d_Model_property_138 (by decide) ?_
            refine lv_istore (lv' := [(12, .int 0), (10, .long x), (9, .int ((-1))), (8, .int 1), (7, .int ((-1))), (0, .ref (K 0)), (1, .int k), (2, .int n), (3, .int y), (4, .int kd), (5, .long x)]) hx hb d_Model_property_139 hl (by decide) rfl (fun ls hl => ?_)
            refine lv_aload_n hx hb d_Model_property_141 rfl (lv_at hl 5 rfl) ?_
            refine lv_iload hx hb d_Model_property_142 (lv_at hl 4 rfl) ?_
            refine lv_if_ge (tgt := 151) hx hb d_Model_property_144 (by decide) (fun c144 => ?_) (fun c144 => ?_)
            · exact absurd c144 (by decide)
            · refine lv_iconst (v := 1) hx hb d_Model_property_147 (by decide) ?_
              refine lv_goto (tgt := 152) hx hb d_Model_property_148 (by decide) ?_
              refine lv_iload hx hb d_Model_property_152 (lv_at hl 3 rfl) ?_
              refine lv_iconst (v := 0) hx hb d_Model_property_154 (by decide) ?_
              refine lv_iload hx hb d_Model_property_155 (lv_at hl 0 rfl) ?_
              refine lv_if_eq (tgt := 181) hx hb d_Model_property_157 (by decide) (fun c157 => ?_) (fun c157 => ?_)
              · refine lv_iconst (v := 0) hx hb d_Model_property_181 (by decide) ?_
                refine lv_iload hx hb d_Model_property_182 (lv_at hl 0 rfl) ?_
                refine hv_call (hv_runV (As := [.int 1, .int 1, .int 0, .int 0, .int 0]) (rest := []) (c_Model_fails C 1 1 0 0 0 hM (by show σ.ec + σ.sc ≤ 249; omega)) (hv_cw C hZ kc_Model_fails kn_Model ⟨rfl, rfl, Nat.le_of_ble_eq_true rfl, Nat.le_of_ble_eq_true rfl⟩) hv_blind (hv_pre hZ hS hP) hx hml hb hown (hts _ k_Model_116) (hts _ ki_Model_fails) (hts _ ksel_Model_Model_fails) hy_Model_fails (hts _ kc_Model_fails) (va_recv hK (hv_one hP h1) (ci := 7) (q0 := 0) rfl rfl) rfl hl.1 rfl (lv_room (Nat.le_of_ble_eq_true rfl)) d_Model_property_184 ⟨Nat.le_of_ble_eq_true rfl, Nat.le_of_ble_eq_true rfl⟩) hZ hS (fun v9 w155 H locs q156 hP hS => ?_) (fun x9 w155 H locs q156 hP hS => q156.elim)
                rcases q156 with ⟨ho9, hv9, hM⟩ | ⟨ho9, he9, hv9, hM⟩ | ⟨ho9, he9, hv9, hM⟩
                · subst hv9
                  show W _ _ _ _ _ _ _ _ _ _ _ _ _ _ _ (F0 m 187 ls [.int 1])
                  refine lv_istore (lv' := [(13, .int 1), (12, .int 0), (10, .long x), (9, .int ((-1))), (8, .int 1), (7, .int ((-1))), (0, .ref (K 0)), (1, .int k), (2, .int n), (3, .int y), (4, .int kd), (5, .long x)]) hx hb d_Model_property_187 hl (by decide) rfl (fun ls hl => ?_)
                  refine lv_iload hx hb d_Model_property_189 (lv_at hl 0 rfl) ?_
                  refine lv_if_ne (tgt := 275) hx hb d_Model_property_191 (by decide) (fun c191 => ?_) (fun c191 => ?_)
                  · refine lv_aload_n hx hb d_Model_property_275 rfl (lv_at hl 6 rfl) ?_
                    refine lv_iload hx hb d_Model_property_276 (lv_at hl 10 rfl) ?_
                    refine lv_iconst (v := 3) hx hb d_Model_property_278 (by decide) ?_
                    refine lv_icmp_ne (tgt := 291) hx hb d_Model_property_279 (by decide) (fun c279 => ?_) (fun c279 => ?_)
                    · refine lv_aload_n hx hb d_Model_property_291 rfl (lv_at hl 6 rfl) ?_
                      have h157 : w155 (K 0) = some (.inr (7, [.int 2, .ref (K 1), .ref (K 2), .ref (K 3), .ref (K 4), .ref (K 5), .ref (K 6), .ref (K 7), .ref (K 8), .ref (K 9), .ref (K 10), .ref (K 11), .ref (K 12), .int (nI (σ.tape.length)), .ref (K 13), .int (σ.err), .int (σ.off), .int (σ.ins), .int (nI (σ.sc)), .int (nI (σ.ec)), .int (nI (σ.en)), .int (σ.tr), .int (nI (σ.lo)), .int (σ.wr), .int (nI (σ.due))])) := hM.1.2 0 (by decide)
                      refine va_get (D := D) (ci := 7) (v := .int (nI (σ.tape.length))) (C := R_Model) (T := F_Model) (N := 25) hx hb hts i_Model hown hK (hv_one hP h157) 0 rfl rfl 13 (by decide) (hts _ k_Model_103) (fun _ h9 => h9) rfl d_Model_property_292 ?_
                      refine hv_put (D := D) (ci := 7) (v := .int (nI (σ.tape.length))) (ty := .int) (C := R_Model) (T := F_Model) (N := 25) hx hb hts i_Model t_Model t_Model_ok n_Model hown hK hP hS h157 rfl 13 (by decide) (hts _ k_Model_103) (fun _ h9 => h9) rfl (by decide +kernel) rfl rfl (Nat.le_of_ble_eq_true rfl) d_Model_property_295 (fun H locs hP hS => ?_)
                      obtain ⟨w158, ew158⟩ : ∃ z9 : hv_W, z9 = va_up w155 (K 0) (some (.inr (7, [.int 2, .ref (K 1), .ref (K 2), .ref (K 3), .ref (K 4), .ref (K 5), .ref (K 6), .ref (K 7), .ref (K 8), .ref (K 9), .ref (K 10), .ref (K 11), .ref (K 12), .int (nI (σ.tape.length)), .ref (K 13), .int (σ.err), .int (σ.off), .int (σ.ins), .int (nI (σ.sc)), .int (nI (σ.ec)), .int (nI (σ.en)), .int (σ.tr), .int (nI (σ.lo)), .int (σ.wr), .int (nI (σ.due))]))) := ⟨_, rfl⟩
                      have hP : hv_P D classes s0.heap.size w158 H := by rw [ew158]; exact hP
                      have hM : mK ca K w0 ((mAo t9 k9 p9 σ).sThrown 2) B w158 := by rw [ew158]; exact hM.put 0 (by decide) rfl
                      have h159 : w158 (K 0) = some (.inr (7, [.int 2, .ref (K 1), .ref (K 2), .ref (K 3), .ref (K 4), .ref (K 5), .ref (K 6), .ref (K 7), .ref (K 8), .ref (K 9), .ref (K 10), .ref (K 11), .ref (K 12), .int (nI (σ.tape.length)), .ref (K 13), .int (σ.err), .int (σ.off), .int (σ.ins), .int (nI (σ.sc)), .int (nI (σ.ec)), .int (nI (σ.en)), .int (σ.tr), .int (nI (σ.lo)), .int (σ.wr), .int (nI (σ.due))])) := by rw [ew158]; exact hv_up_s
                      refine lv_iload hx hb d_Model_property_298 (lv_at hl 0 rfl) ?_
                      refine lv_if_ne (tgt := 312) hx hb d_Model_property_300 (by decide) (fun c300 => ?_) (fun c300 => ?_)
                      · refine lv_iconst (v := 0) hx hb d_Model_property_312 (by decide) ?_
                        exact hv_zret (v := 0) hQ hx hb hr (by decide) hZ hS hP hlocks d_Model_property_313 (mRet.of (r' := (σ, 2, 0)) (by rw [x_property, cif_neg c4]) (fun z9 => absurd z9 (show ¬ (2 : Nat) = 0 by decide)) hM ((hRel.thr 2).tp rfl) rfl)
                      · exact absurd c300 (by decide)
                    · exact absurd c279 c78
                  · exact absurd c191 (by decide)
                · exact absurd ho9 c4
                · exact absurd ho9 c4
              · exact absurd c157 (by decide)
          · exact absurd c95 (by decide)
        · exact absurd (x_okv3 c78 x) hok
    refine lv_iload hx hb d_Model_property_19 (lv_at hl 5 rfl) ?_
    refine lv_if_lt (tgt := 50) hx hb d_Model_property_21 (by decide) (fun c21 => ?_) (fun c21 => ?_)
    · refine lv_iconst (v := 1) hx hb d_Model_property_50 (by decide) ?_
      refine lv_goto (tgt := 55) hx hb d_Model_property_51 (by decide) ?_
      exact jB (fun z => z.1 c21) _ _ _ hP hS hl
    · refine lv_iload hx hb d_Model_property_24 (lv_at hl 5 rfl) ?_
      refine lv_iconst (v := 3) hx hb d_Model_property_26 (by decide) ?_
      refine lv_icmp_gt (tgt := 50) hx hb d_Model_property_27 (by decide) (fun c27 => ?_) (fun c27 => ?_)
      · refine lv_iconst (v := 1) hx hb d_Model_property_50 (by decide) ?_
        refine lv_goto (tgt := 55) hx hb d_Model_property_51 (by decide) ?_
        exact jB (fun z => z.2.1 c27) _ _ _ hP hS hl
      · refine lv_iload hx hb d_Model_property_30 (lv_at hl 5 rfl) ?_
        refine lv_iconst (v := 2) hx hb d_Model_property_32 (by decide) ?_
        refine lv_icmp_ne (tgt := 54) hx hb d_Model_property_33 (by decide) (fun c33 => ?_) (fun c33 => ?_)
        · refine lv_iconst (v := 0) hx hb d_Model_property_54 (by decide) ?_
          exact jA ⟨c21, c27, fun z => absurd z c33⟩ _ _ _ hP hS hl
        · refine lv_lload hx hb d_Model_property_36 (lv_at hl 6 rfl) ?_
          refine lv_lconst (v := 0) hx hb d_Model_property_38 (by decide) ?_
          refine W.lcmp hx hb d_Model_property_39 ?_
          refine lv_if_eq (tgt := 54) hx hb d_Model_property_40 (by decide) (fun c40 => ?_) (fun c40 => ?_)
          · refine lv_iconst (v := 0) hx hb d_Model_property_54 (by decide) ?_
            exact jA ⟨c21, c27, fun _ => Or.inl (g_lcmp_eq c40)⟩ _ _ _ hP hS hl
          · refine lv_lload hx hb d_Model_property_43 (lv_at hl 6 rfl) ?_
            refine lv_lconst (v := 1) hx hb d_Model_property_45 (by decide) ?_
            refine W.lcmp hx hb d_Model_property_46 ?_
            refine lv_if_eq (tgt := 54) hx hb d_Model_property_47 (by decide) (fun c47 => ?_) (fun c47 => ?_)
            · refine lv_iconst (v := 0) hx hb d_Model_property_54 (by decide) ?_
              exact jA ⟨c21, c27, fun _ => Or.inr (g_lcmp_eq c47)⟩ _ _ _ hP hS hl
            · refine lv_iconst (v := 1) hx hb d_Model_property_50 (by decide) ?_
              refine lv_goto (tgt := 55) hx hb d_Model_property_51 (by decide) ?_
              exact jB (fun z => (z.2.2 c33).elim (fun q => c40 (by rw [q]; exact g_lcmp_refl 0)) (fun q => c47 (by rw [q]; exact g_lcmp_refl 1))) _ _ _ hP hS hl

