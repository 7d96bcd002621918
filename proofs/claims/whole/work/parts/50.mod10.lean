abbrev rm_Model_type : Room := { frames := 0, cells := 0, slots := 0, locals := 0 }
set_option maxHeartbeats 4000000 in
set_option maxRecDepth 100000 in
theorem c_Model_type {l : Launch} {s0 : State} {D : va_G} {ca : Nat → ClassId} (C : hv_C l s0 D (hv_tys ca)) {w : hv_W} {K : Nat → Nat} {w0 : hv_W} {A : mA} {B : mB} {σ : gS} (y : Int64) (n : Int32) (hM : mK ca K w0 A B w) (hRel : mRel A B σ) (hW : gW σ)  :
    hv_Met l y_Model_type [.code y_Model_type b_Model_type 8 (some .boolean)] rm_Model_type (hv_Pc s0 D w [.ref (K 0), .long y, .int n]) (hv_Q s0 D (fun v w' => mRet ca K w0 (x_type σ y n) v w') (fun _ _ => False)) 0 0 (hv_A s0.heap.size) := by
  refine hv_enter C _ (by decide) (Nat.le_of_ble_eq_true rfl) ?_
  intro p e s m below meth c ls Q hQ hx hb hr hml hown hts hK hZ hlocks hname hout htr hP hl
  have hown : s.vm.findClass R_Model = some m.cls := hown
  have hS : va_S (hv_A s0.heap.size) s.heap s.heap [] := va_S.rf
  have hl : lv_has ls 8 [(0, .ref (K 0)), (1, .long y), (3, .int n)] := hl
  obtain ⟨t9, k9, p9, hA9⟩ := mAo_of hRel
  subst hA9
  have hb9 := hW.hb
  have htp9 := hW.tape
  have hdu9 : σ.due ≤ 2000 := hW.2.2.1.2.2.2
  have hen9 : σ.en ≤ 250 := hW.2.2.1.2.1
  have hlo9 : σ.lo ≤ 250 := hW.2.2.1.2.2.1
  refine lv_aload_n hx hb d_Model_type_0 rfl (lv_at hl 0 rfl) ?_
  refine lv_iconst (v := 0) hx hb d_Model_type_1 (by decide) ?_
  have h1 : w (K 0) = some (.inr (7, [.int t9, .ref (K 1), .ref (K 2), .ref (K 3), .ref (K 4), .ref (K 5), .ref (K 6), .ref (K 7), .ref (K 8), .ref (K 9), .ref (K 10), .ref (K 11), .ref (K 12), .int (nI (σ.tape.length)), .ref (K 13), .int (σ.err), .int (σ.off), .int (σ.ins), .int (nI (σ.sc)), .int (nI (σ.ec)), .int (nI (σ.en)), .int (σ.tr), .int (nI (σ.lo)), .int (σ.wr), .int (nI (σ.due))])) := hM.1.2 0 (by decide)
  refine hv_put (D := D) (ci := 7) (v := .int 0) (ty := .int) (C := R_Model) (T := F_Model) (N := 25) hx hb hts i_Model t_Model t_Model_ok n_Model hown hK hP hS h1 rfl 0 (by decide) (hts _ k_Model_51) (fun _ h9 => h9) rfl (by decide +kernel) rfl rfl (Nat.le_of_ble_eq_true rfl) d_Model_type_2 (fun H locs hP hS => ?_)
  obtain ⟨w2, ew2⟩ : ∃ z9 : hv_W, z9 = va_up w (K 0) (some (.inr (7, [.int 0, .ref (K 1), .ref (K 2), .ref (K 3), .ref (K 4), .ref (K 5), .ref (K 6), .ref (K 7), .ref (K 8), .ref (K 9), .ref (K 10), .ref (K 11), .ref (K 12), .int (nI (σ.tape.length)), .ref (K 13), .int (σ.err), .int (σ.off), .int (σ.ins), .int (nI (σ.sc)), .int (nI (σ.ec)), .int (nI (σ.en)), .int (σ.tr), .int (nI (σ.lo)), .int (σ.wr), .int (nI (σ.due))]))) := ⟨_, rfl⟩
  have hP : hv_P D classes s0.heap.size w2 H := by rw [ew2]; exact hP
  have hM : mK ca K w0 ((mAo t9 k9 p9 σ).sThrown 0) B w2 := by rw [ew2]; exact hM.put 0 (by decide) rfl
  have h3 : w2 (K 0) = some (.inr (7, [.int 0, .ref (K 1), .ref (K 2), .ref (K 3), .ref (K 4), .ref (K 5), .ref (K 6), .ref (K 7), .ref (K 8), .ref (K 9), .ref (K 10), .ref (K 11), .ref (K 12), .int (nI (σ.tape.length)), .ref (K 13), .int (σ.err), .int (σ.off), .int (σ.ins), .int (nI (σ.sc)), .int (nI (σ.ec)), .int (nI (σ.en)), .int (σ.tr), .int (nI (σ.lo)), .int (σ.wr), .int (nI (σ.due))])) := by rw [ew2]; exact hv_up_s
  have jG0 : (¬ t_good y n σ.tape.length) → ∀ (H : Heap) (locs : List Loc) (ls : Array Slot), hv_P D classes s0.heap.size w2 H → va_S (hv_A s0.heap.size) s.heap H locs → lv_has ls 8 [(0, .ref (K 0)), (1, .long y), (3, .int n), (4, .int 0)] → W p l e rm_Model_type s m ([.ref (K 0), .long y, .int n] : List Value).toArray below meth c H locs 0 0 Q (F0 m 91 ls []) := by
    intro hng H locs ls hP hS hl
    refine lv_iload_n hx hb d_Model_type_91 rfl (lv_at hl 2 rfl) ?_
    refine lv_iconst (v := 1) hx hb d_Model_type_92 (by decide) ?_
    refine lv_isub hx hb d_Model_type_93 ?_
    refine lv_istore (lv' := [(5, .int (n - 1)), (0, .ref (K 0)), (1, .long y), (3, .int n), (4, .int 0)]) hx hb d_Model_type_94 hl (by decide) rfl (fun ls hl => ?_)
    refine lv_iload hx hb d_Model_type_96 (lv_at hl 0 rfl) ?_
    refine lv_if_lt (tgt := 193) hx hb d_Model_type_98 (by decide) (fun c98 => ?_) (fun c98 => ?_)
    · refine lv_iload hx hb d_Model_type_193 (lv_at hl 4 rfl) ?_
      exact hv_zret (v := 0) hQ hx hb hr (by decide) hZ hS hP hlocks d_Model_type_195 (mRet.of (r' := (σ, 0, 0)) (by rw [x_type, cif_neg hng]) (fun _ => rfl) hM (hRel.thr 0) rfl)
    · refine lv_iload hx hb d_Model_type_101 (lv_at hl 4 rfl) ?_
      refine lv_if_eq (tgt := 193) hx hb d_Model_type_103 (by decide) (fun c103 => ?_) (fun c103 => ?_)
      · refine lv_iload hx hb d_Model_type_193 (lv_at hl 4 rfl) ?_
        exact hv_zret (v := 0) hQ hx hb hr (by decide) hZ hS hP hlocks d_Model_type_195 (mRet.of (r' := (σ, 0, 0)) (by rw [x_type, cif_neg hng]) (fun _ => rfl) hM (hRel.thr 0) rfl)
      · exact absurd c103 (by decide)
  have jG1 : (t_good y n σ.tape.length) → ∀ (H : Heap) (locs : List Loc) (ls : Array Slot), hv_P D classes s0.heap.size w2 H → va_S (hv_A s0.heap.size) s.heap H locs → lv_has ls 8 [(0, .ref (K 0)), (1, .long y), (3, .int n), (4, .int 1)] → W p l e rm_Model_type s m ([.ref (K 0), .long y, .int n] : List Value).toArray below meth c H locs 0 0 Q (F0 m 91 ls []) := by
    intro hgd H locs ls hP hS hl
    obtain ⟨N, hne, hN1, hN8, hN24, hok⟩ := id hgd
    subst hne
    refine lv_iload_n hx hb d_Model_type_91 rfl (lv_at hl 2 rfl) ?_
    refine lv_iconst (v := 1) hx hb d_Model_type_92 (by decide) ?_
    refine gk_isub (x := N) (y := 1) hx hb d_Model_type_93 (by omega) ?_
    refine lv_istore (lv' := [(5, .int (nI (N - 1))), (0, .ref (K 0)), (1, .long y), (3, .int (nI N)), (4, .int 1)]) hx hb d_Model_type_94 hl (by decide) rfl (fun ls hl => ?_)
    rw [show nI (N - 1) = nI (N - 0) - 1 from (gk_nsub (b := 1) hN1).symm] at hl
    have lp2 : ∀ (n9lp2 : Nat) (r : Nat) (f : Nat → Int64) (z : hv_W), N - r < n9lp2 → (r ≤ N) → (mK ca K w0 ((((mAo t9 k9 p9 σ).sThrown 0).sTape f).sTapeSize (σ.tape.length + r)) B z) → (mTp f (σ.tape ++ t_acc y N r)) → ∀ (H : Heap) (locs : List Loc) (ls : Array Slot), hv_P D classes s0.heap.size z H → va_S (hv_A s0.heap.size) s.heap H locs → lv_has ls 8 [(0, .ref (K 0)), (1, .long y), (3, .int (nI N)), (4, .int 1), (5, .int (nI (N - r) - 1))] → W p l e rm_Model_type s m ([.ref (K 0), .long y, .int (nI N)] : List Value).toArray below meth c H locs 0 0 Q (F0 m 96 ls []) := by
      intro n9lp2
      induction n9lp2 with
      | zero =>
        intro r f z hn9lp2
        exact absurd hn9lp2 (Nat.not_lt_zero _)
      | succ n9lp2 ihlp2 =>
        intro r f z hn9lp2 hr9 hM hf H locs ls hP hS hl
        refine lv_iload hx hb d_Model_type_96 (lv_at hl 4 rfl) ?_
        refine lv_if_lt (tgt := 193) hx hb d_Model_type_98 (by decide) (fun c98 => ?_) (fun c98 => ?_)
        · have hrN : r = N := by have z9 := gk_m1 (by omega) c98; omega
          refine lv_iload hx hb d_Model_type_193 (lv_at hl 3 rfl) ?_
          exact hv_zret (v := 1) hQ hx hb hr (by decide) hZ hS hP hlocks d_Model_type_195 (mRet.of (r' := ((σ.sTape (σ.tape ++ t_acc y N N)), 0, 1)) (by rw [x_type, cif_pos hgd, nI_clamp (by omega)]) (fun _ => rfl) hM ((hRel.thr 0).tape1 (by rw [List.length_append, t_acc_len, hrN]) (by rw [hrN] at hf; exact hf)) rfl)
        · have hrN : r + 1 ≤ N := Nat.not_lt.mp (fun z => c98 (by rw [show N - r = 0 by omega]; decide))
          rw [t_dn hrN] at hl
          refine lv_iload hx hb d_Model_type_101 (lv_at hl 3 rfl) ?_
          refine lv_if_eq (tgt := 193) hx hb d_Model_type_103 (by decide) (fun c103 => ?_) (fun c103 => ?_)
          · exact absurd c103 (by decide)
          · refine lv_aload_n hx hb d_Model_type_106 rfl (lv_at hl 0 rfl) ?_
            have h4 : z (K 0) = some (.inr (7, [.int 0, .ref (K 1), .ref (K 2), .ref (K 3), .ref (K 4), .ref (K 5), .ref (K 6), .ref (K 7), .ref (K 8), .ref (K 9), .ref (K 10), .ref (K 11), .ref (K 12), .int (nI (σ.tape.length + r)), .ref (K 13), .int (σ.err), .int (σ.off), .int (σ.ins), .int (nI (σ.sc)), .int (nI (σ.ec)), .int (nI (σ.en)), .int (σ.tr), .int (nI (σ.lo)), .int (σ.wr), .int (nI (σ.due))])) := hM.1.2 0 (by decide)
            refine va_get (D := D) (ci := 7) (v := .int (nI (σ.tape.length + r))) (C := R_Model) (T := F_Model) (N := 25) hx hb hts i_Model hown hK (hv_one hP h4) 0 rfl rfl 13 (by decide) (hts _ k_Model_103) (fun _ h9 => h9) rfl d_Model_type_107 ?_
            refine lv_istore (lv' := [(6, .int (nI (σ.tape.length + r))), (0, .ref (K 0)), (1, .long y), (3, .int (nI N)), (4, .int 1), (5, .int (nI (N - r - 1)))]) hx hb d_Model_type_110 hl (by decide) rfl (fun ls hl => ?_)
            refine lv_aload_n hx hb d_Model_type_112 rfl (lv_at hl 1 rfl) ?_
            refine va_get (D := D) (ci := 7) (v := .ref (K 13)) (C := R_Model) (T := F_Model) (N := 25) hx hb hts i_Model hown hK (hv_one hP h4) 0 rfl rfl 14 (by decide) (hts _ k_Model_48) (fun _ h9 => h9) rfl d_Model_type_113 ?_
            refine lv_iload hx hb d_Model_type_116 (lv_at hl 0 rfl) ?_
            refine lv_bipush (v := 8) hx hb d_Model_type_118 (by decide) ?_
            refine gk_idiv (x := σ.tape.length + r) (y := 8) hx hb d_Model_type_120 (by omega) (by omega) (by omega) ?_
            refine lv_iload hx hb d_Model_type_121 (lv_at hl 0 rfl) ?_
            refine lv_bipush (v := 8) hx hb d_Model_type_123 (by decide) ?_
            refine gk_irem (x := σ.tape.length + r) (y := 8) hx hb d_Model_type_125 (by omega) (by omega) (by omega) ?_
            refine gk_if_ne (x := (σ.tape.length + r) % 8) (tgt := 133) hx hb d_Model_type_126 (by decide) (by omega) (fun c126 => ?_) (fun c126 => ?_)
            · refine lv_aload_n hx hb d_Model_type_133 rfl (lv_at hl 1 rfl) ?_
              refine va_get (D := D) (ci := 7) (v := .ref (K 13)) (C := R_Model) (T := F_Model) (N := 25) hx hb hts i_Model hown hK (hv_one hP h4) 0 rfl rfl 14 (by decide) (hts _ k_Model_48) (fun _ h9 => h9) rfl d_Model_type_134 ?_
              refine lv_iload hx hb d_Model_type_137 (lv_at hl 0 rfl) ?_
              refine lv_bipush (v := 8) hx hb d_Model_type_139 (by decide) ?_
              refine gk_idiv (x := σ.tape.length + r) (y := 8) hx hb d_Model_type_141 (by omega) (by omega) (by omega) ?_
              have h5 : z (K 13) = some (.inl (ca 3, 3, .inr (.inl f))) := hM.1.2 13 (by decide)
              refine va_lald hx hb hK (hv_one hP h5) 0 3 rfl rfl (vp_in_nI (n := (σ.tape.length + r) / 8) (by omega) (by omega)) d_Model_type_142 ?_
              rw [nI_clamp (n := (σ.tape.length + r) / 8) (by omega)]
              refine hv_last hx hb hK hP hS 3 h5 rfl (vp_in_nI (n := (σ.tape.length + r) / 8) (by omega) (by omega)) d_Model_type_143 (fun H locs hP hS => ?_)
              rw [nI_clamp (n := (σ.tape.length + r) / 8) (by omega)] at hP
              obtain ⟨w6, ew6⟩ : ∃ z9 : hv_W, z9 = va_up z (K 13) (some (.inl (ca 3, 3, .inr (.inl (vp_updL f ((σ.tape.length + r) / 8) (f ((σ.tape.length + r) / 8))))))) := ⟨_, rfl⟩
              have hP : hv_P D classes s0.heap.size w6 H := by rw [ew6]; exact hP
              have hM : mK ca K w0 ((((mAo t9 k9 p9 σ).sThrown 0).sTapeSize (σ.tape.length + r)).sTape (vp_updL f ((σ.tape.length + r) / 8) (f ((σ.tape.length + r) / 8)))) B w6 := by rw [ew6]; exact hM.put 13 (by decide) rfl
              have h7 : w6 (K 13) = some (.inl (ca 3, 3, .inr (.inl (vp_updL f ((σ.tape.length + r) / 8) (f ((σ.tape.length + r) / 8)))))) := by rw [ew6]; exact hv_up_s
              refine lv_aload_n hx hb d_Model_type_144 rfl (lv_at hl 1 rfl) ?_
              have h8 : w6 (K 0) = some (.inr (7, [.int 0, .ref (K 1), .ref (K 2), .ref (K 3), .ref (K 4), .ref (K 5), .ref (K 6), .ref (K 7), .ref (K 8), .ref (K 9), .ref (K 10), .ref (K 11), .ref (K 12), .int (nI (σ.tape.length + r)), .ref (K 13), .int (σ.err), .int (σ.off), .int (σ.ins), .int (nI (σ.sc)), .int (nI (σ.ec)), .int (nI (σ.en)), .int (σ.tr), .int (nI (σ.lo)), .int (σ.wr), .int (nI (σ.due))])) := hM.1.2 0 (by decide)
              refine va_get (D := D) (ci := 7) (v := .ref (K 13)) (C := R_Model) (T := F_Model) (N := 25) hx hb hts i_Model hown hK (hv_one hP h8) 0 rfl rfl 14 (by decide) (hts _ k_Model_48) (fun _ h9 => h9) rfl d_Model_type_145 ?_
              refine lv_iload hx hb d_Model_type_148 (lv_at hl 0 rfl) ?_
              refine lv_bipush (v := 8) hx hb d_Model_type_150 (by decide) ?_
              refine gk_idiv (x := σ.tape.length + r) (y := 8) hx hb d_Model_type_152 (by omega) (by omega) (by omega) ?_
              refine lv_dup2_11 hx hb d_Model_type_153 rfl rfl ?_
              refine va_lald hx hb hK (hv_one hP h7) 0 3 rfl rfl (vp_in_nI (n := (σ.tape.length + r) / 8) (by omega) (by omega)) d_Model_type_154 ?_
              rw [nI_clamp (n := (σ.tape.length + r) / 8) (by omega)]
              refine lv_topl (fun v9 e9 => ?_)
              have e9 : v9 = f ((σ.tape.length + r) / 8) := e9.trans (m_uLs)
              subst e9
              show W _ _ _ _ _ _ _ _ _ _ _ _ _ _ _ (F0 m 155 ls [.long (f ((σ.tape.length + r) / 8)), .int (nI ((σ.tape.length + r) / 8)), .ref (K 13)])
              refine lv_lload_n hx hb d_Model_type_155 rfl (lv_at hl 2 rfl) ?_
              refine lv_bipush (v := 8) hx hb d_Model_type_156 (by decide) ?_
              refine lv_iload hx hb d_Model_type_158 (lv_at hl 5 rfl) ?_
              refine gk_imul (x := 8) (y := N - r - 1) hx hb d_Model_type_160 ?_
              refine lv_lshr (v := y >>> ((nI (8 * (N - r - 1))).toInt64 &&& 63)) hx hb d_Model_type_161 rfl ?_
              refine lv_ldc2 (v := 255) hx hb hown (hts _ k_Model_106) d_Model_type_162 ?_
              refine lv_land hx hb d_Model_type_165 ?_
              refine lv_bipush (v := 8) hx hb d_Model_type_166 (by decide) ?_
              refine lv_iload hx hb d_Model_type_168 (lv_at hl 0 rfl) ?_
              refine lv_bipush (v := 8) hx hb d_Model_type_170 (by decide) ?_
              refine gk_irem (x := σ.tape.length + r) (y := 8) hx hb d_Model_type_172 (by omega) (by omega) (by omega) ?_
              refine gk_imul (x := 8) (y := (σ.tape.length + r) % 8) hx hb d_Model_type_173 ?_
              refine lv_lshl (v := ((y >>> ((nI (8 * (N - r - 1))).toInt64 &&& 63)) &&& 255) <<< ((nI (8 * ((σ.tape.length + r) % 8))).toInt64 &&& 63)) hx hb d_Model_type_174 rfl ?_
              refine lv_lor hx hb d_Model_type_175 ?_
              refine hv_last hx hb hK hP hS 3 h7 rfl (vp_in_nI (n := (σ.tape.length + r) / 8) (by omega) (by omega)) d_Model_type_176 (fun H locs hP hS => ?_)
              rw [nI_clamp (n := (σ.tape.length + r) / 8) (by omega)] at hP
              obtain ⟨w9, ew9⟩ : ∃ z9 : hv_W, z9 = va_up w6 (K 13) (some (.inl (ca 3, 3, .inr (.inl (vp_updL (vp_updL f ((σ.tape.length + r) / 8) (f ((σ.tape.length + r) / 8))) ((σ.tape.length + r) / 8) ((f ((σ.tape.length + r) / 8)) ||| (((y >>> ((nI (8 * (N - r - 1))).toInt64 &&& 63)) &&& 255) <<< ((nI (8 * ((σ.tape.length + r) % 8))).toInt64 &&& 63)))))))) := ⟨_, rfl⟩
              have hP : hv_P D classes s0.heap.size w9 H := by rw [ew9]; exact hP
              have hM : mK ca K w0 ((((mAo t9 k9 p9 σ).sThrown 0).sTapeSize (σ.tape.length + r)).sTape (vp_updL (vp_updL f ((σ.tape.length + r) / 8) (f ((σ.tape.length + r) / 8))) ((σ.tape.length + r) / 8) ((f ((σ.tape.length + r) / 8)) ||| (((y >>> ((nI (8 * (N - r - 1))).toInt64 &&& 63)) &&& 255) <<< ((nI (8 * ((σ.tape.length + r) % 8))).toInt64 &&& 63))))) B w9 := by rw [ew9]; exact hM.put 13 (by decide) rfl
              have h10 : w9 (K 13) = some (.inl (ca 3, 3, .inr (.inl (vp_updL (vp_updL f ((σ.tape.length + r) / 8) (f ((σ.tape.length + r) / 8))) ((σ.tape.length + r) / 8) ((f ((σ.tape.length + r) / 8)) ||| (((y >>> ((nI (8 * (N - r - 1))).toInt64 &&& 63)) &&& 255) <<< ((nI (8 * ((σ.tape.length + r) % 8))).toInt64 &&& 63))))))) := by rw [ew9]; exact hv_up_s
              refine lv_aload_n hx hb d_Model_type_177 rfl (lv_at hl 1 rfl) ?_
              refine lv_dup hx hb d_Model_type_178 rfl ?_
              have h11 : w9 (K 0) = some (.inr (7, [.int 0, .ref (K 1), .ref (K 2), .ref (K 3), .ref (K 4), .ref (K 5), .ref (K 6), .ref (K 7), .ref (K 8), .ref (K 9), .ref (K 10), .ref (K 11), .ref (K 12), .int (nI (σ.tape.length + r)), .ref (K 13), .int (σ.err), .int (σ.off), .int (σ.ins), .int (nI (σ.sc)), .int (nI (σ.ec)), .int (nI (σ.en)), .int (σ.tr), .int (nI (σ.lo)), .int (σ.wr), .int (nI (σ.due))])) := hM.1.2 0 (by decide)
              refine va_get (D := D) (ci := 7) (v := .int (nI (σ.tape.length + r))) (C := R_Model) (T := F_Model) (N := 25) hx hb hts i_Model hown hK (hv_one hP h11) 0 rfl rfl 13 (by decide) (hts _ k_Model_103) (fun _ h9 => h9) rfl d_Model_type_179 ?_
              refine lv_iconst (v := 1) hx hb d_Model_type_182 (by decide) ?_
              refine gk_iadd (x := σ.tape.length + r) (y := 1) hx hb d_Model_type_183 ?_
              refine hv_put (D := D) (ci := 7) (v := .int (nI ((σ.tape.length + r) + 1))) (ty := .int) (C := R_Model) (T := F_Model) (N := 25) hx hb hts i_Model t_Model t_Model_ok n_Model hown hK hP hS h11 rfl 13 (by decide) (hts _ k_Model_103) (fun _ h9 => h9) rfl (by decide +kernel) rfl rfl (Nat.le_of_ble_eq_true rfl) d_Model_type_184 (fun H locs hP hS => ?_)
              obtain ⟨w12, ew12⟩ : ∃ z9 : hv_W, z9 = va_up w9 (K 0) (some (.inr (7, [.int 0, .ref (K 1), .ref (K 2), .ref (K 3), .ref (K 4), .ref (K 5), .ref (K 6), .ref (K 7), .ref (K 8), .ref (K 9), .ref (K 10), .ref (K 11), .ref (K 12), .int (nI ((σ.tape.length + r) + 1)), .ref (K 13), .int (σ.err), .int (σ.off), .int (σ.ins), .int (nI (σ.sc)), .int (nI (σ.ec)), .int (nI (σ.en)), .int (σ.tr), .int (nI (σ.lo)), .int (σ.wr), .int (nI (σ.due))]))) := ⟨_, rfl⟩
              have hP : hv_P D classes s0.heap.size w12 H := by rw [ew12]; exact hP
              have hM : mK ca K w0 ((((mAo t9 k9 p9 σ).sTape (vp_updL (vp_updL f ((σ.tape.length + r) / 8) (f ((σ.tape.length + r) / 8))) ((σ.tape.length + r) / 8) ((f ((σ.tape.length + r) / 8)) ||| (((y >>> ((nI (8 * (N - r - 1))).toInt64 &&& 63)) &&& 255) <<< ((nI (8 * ((σ.tape.length + r) % 8))).toInt64 &&& 63))))).sThrown 0).sTapeSize ((σ.tape.length + r) + 1)) B w12 := by rw [ew12]; exact hM.put 0 (by decide) rfl
              have h13 : w12 (K 0) = some (.inr (7, [.int 0, .ref (K 1), .ref (K 2), .ref (K 3), .ref (K 4), .ref (K 5), .ref (K 6), .ref (K 7), .ref (K 8), .ref (K 9), .ref (K 10), .ref (K 11), .ref (K 12), .int (nI ((σ.tape.length + r) + 1)), .ref (K 13), .int (σ.err), .int (σ.off), .int (σ.ins), .int (nI (σ.sc)), .int (nI (σ.ec)), .int (nI (σ.en)), .int (σ.tr), .int (nI (σ.lo)), .int (σ.wr), .int (nI (σ.due))])) := by rw [ew12]; exact hv_up_s
              refine lv_iinc (v := (nI (N - (r + 1)) - 1)) (lv' := [(5, .int ((nI (N - (r + 1)) - 1))), (6, .int (nI (σ.tape.length + r))), (0, .ref (K 0)), (1, .long y), (3, .int (nI N)), (4, .int 1)]) hx hb d_Model_type_187 hl (k := 5) rfl t_dn2 (by decide) rfl (fun ls hl => ?_)
              refine lv_goto (tgt := 96) hx hb d_Model_type_190 (by decide) ?_
              exact ihlp2 (r + 1) (vp_updL (vp_updL f ((σ.tape.length + r) / 8) (f ((σ.tape.length + r) / 8))) ((σ.tape.length + r) / 8) ((f ((σ.tape.length + r) / 8)) ||| (((y >>> ((nI (8 * (N - r - 1))).toInt64 &&& 63)) &&& 255) <<< ((nI (8 * ((σ.tape.length + r) % 8))).toInt64 &&& 63)))) w12 (by omega) (by omega) hM (by have z9 := mTp_step (u := vp_updL (vp_updL f ((σ.tape.length + r) / 8) (f ((σ.tape.length + r) / 8))) ((σ.tape.length + r) / 8) ((f ((σ.tape.length + r) / 8)) ||| (((y >>> ((nI (8 * (N - r - 1))).toInt64 &&& 63)) &&& 255) <<< ((nI (8 * ((σ.tape.length + r) % 8))).toInt64 &&& 63)))) (v := f ((σ.tape.length + r) / 8)) (y := y) (k := N - r - 1) (n := σ.tape.length + r) hf (by omega) (by rw [List.length_append, t_acc_len]) (by rw [if_neg c126]) m_uLs (fun i hi => (m_uLn hi).trans (m_uLn hi)); rw [t_acc_s, ← List.append_assoc, show N - 1 - r = N - r - 1 by omega]; exact z9) _ _ _ hP hS (lv_sub hl [2, 3, 4, 5, 0] rfl)
            · refine lv_lconst (v := 0) hx hb d_Model_type_129 (by decide) ?_
              refine lv_goto (tgt := 143) hx hb d_Model_type_130 (by decide) ?_
              have h14 : z (K 13) = some (.inl (ca 3, 3, .inr (.inl f))) := hM.1.2 13 (by decide)
              refine hv_last hx hb hK hP hS 3 h14 rfl (vp_in_nI (n := (σ.tape.length + r) / 8) (by omega) (by omega)) d_Model_type_143 (fun H locs hP hS => ?_)
              rw [nI_clamp (n := (σ.tape.length + r) / 8) (by omega)] at hP
              obtain ⟨w15, ew15⟩ : ∃ z9 : hv_W, z9 = va_up z (K 13) (some (.inl (ca 3, 3, .inr (.inl (vp_updL f ((σ.tape.length + r) / 8) 0))))) := ⟨_, rfl⟩
              have hP : hv_P D classes s0.heap.size w15 H := by rw [ew15]; exact hP
              have hM : mK ca K w0 ((((mAo t9 k9 p9 σ).sThrown 0).sTapeSize (σ.tape.length + r)).sTape (vp_updL f ((σ.tape.length + r) / 8) 0)) B w15 := by rw [ew15]; exact hM.put 13 (by decide) rfl
              have h16 : w15 (K 13) = some (.inl (ca 3, 3, .inr (.inl (vp_updL f ((σ.tape.length + r) / 8) 0)))) := by rw [ew15]; exact hv_up_s
              refine lv_aload_n hx hb d_Model_type_144 rfl (lv_at hl 1 rfl) ?_
              have h17 : w15 (K 0) = some (.inr (7, [.int 0, .ref (K 1), .ref (K 2), .ref (K 3), .ref (K 4), .ref (K 5), .ref (K 6), .ref (K 7), .ref (K 8), .ref (K 9), .ref (K 10), .ref (K 11), .ref (K 12), .int (nI (σ.tape.length + r)), .ref (K 13), .int (σ.err), .int (σ.off), .int (σ.ins), .int (nI (σ.sc)), .int (nI (σ.ec)), .int (nI (σ.en)), .int (σ.tr), .int (nI (σ.lo)), .int (σ.wr), .int (nI (σ.due))])) := hM.1.2 0 (by decide)
              refine va_get (D := D) (ci := 7) (v := .ref (K 13)) (C := R_Model) (T := F_Model) (N := 25) hx hb hts i_Model hown hK (hv_one hP h17) 0 rfl rfl 14 (by decide) (hts _ k_Model_48) (fun _ h9 => h9) rfl d_Model_type_145 ?_
              refine lv_iload hx hb d_Model_type_148 (lv_at hl 0 rfl) ?_
              refine lv_bipush (v := 8) hx hb d_Model_type_150 (by decide) ?_
              refine gk_idiv (x := σ.tape.length + r) (y := 8) hx hb d_Model_type_152 (by omega) (by omega) (by omega) ?_
              refine lv_dup2_11 hx hb d_Model_type_153 rfl rfl ?_
              refine va_lald hx hb hK (hv_one hP h16) 0 3 rfl rfl (vp_in_nI (n := (σ.tape.length + r) / 8) (by omega) (by omega)) d_Model_type_154 ?_
              rw [nI_clamp (n := (σ.tape.length + r) / 8) (by omega)]
              refine lv_topl (fun v9 e9 => ?_)
              have e9 : v9 = 0 := e9.trans (m_uLs)
              subst e9
              show W _ _ _ _ _ _ _ _ _ _ _ _ _ _ _ (F0 m 155 ls [.long 0, .int (nI ((σ.tape.length + r) / 8)), .ref (K 13)])
              refine lv_lload_n hx hb d_Model_type_155 rfl (lv_at hl 2 rfl) ?_
              refine lv_bipush (v := 8) hx hb d_Model_type_156 (by decide) ?_
              refine lv_iload hx hb d_Model_type_158 (lv_at hl 5 rfl) ?_
              refine gk_imul (x := 8) (y := N - r - 1) hx hb d_Model_type_160 ?_
              refine lv_lshr (v := y >>> ((nI (8 * (N - r - 1))).toInt64 &&& 63)) hx hb d_Model_type_161 rfl ?_
              refine lv_ldc2 (v := 255) hx hb hown (hts _ k_Model_106) d_Model_type_162 ?_
              refine lv_land hx hb d_Model_type_165 ?_
              refine lv_bipush (v := 8) hx hb d_Model_type_166 (by decide) ?_
              refine lv_iload hx hb d_Model_type_168 (lv_at hl 0 rfl) ?_
              refine lv_bipush (v := 8) hx hb d_Model_type_170 (by decide) ?_
              refine gk_irem (x := σ.tape.length + r) (y := 8) hx hb d_Model_type_172 (by omega) (by omega) (by omega) ?_
              refine gk_imul (x := 8) (y := (σ.tape.length + r) % 8) hx hb d_Model_type_173 ?_
              refine lv_lshl (v := ((y >>> ((nI (8 * (N - r - 1))).toInt64 &&& 63)) &&& 255) <<< ((nI (8 * ((σ.tape.length + r) % 8))).toInt64 &&& 63)) hx hb d_Model_type_174 rfl ?_
              refine lv_lor hx hb d_Model_type_175 ?_
              refine hv_last hx hb hK hP hS 3 h16 rfl (vp_in_nI (n := (σ.tape.length + r) / 8) (by omega) (by omega)) d_Model_type_176 (fun H locs hP hS => ?_)
              rw [nI_clamp (n := (σ.tape.length + r) / 8) (by omega)] at hP
              obtain ⟨w18, ew18⟩ : ∃ z9 : hv_W, z9 = va_up w15 (K 13) (some (.inl (ca 3, 3, .inr (.inl (vp_updL (vp_updL f ((σ.tape.length + r) / 8) 0) ((σ.tape.length + r) / 8) (0 ||| (((y >>> ((nI (8 * (N - r - 1))).toInt64 &&& 63)) &&& 255) <<< ((nI (8 * ((σ.tape.length + r) % 8))).toInt64 &&& 63)))))))) := ⟨_, rfl⟩
              have hP : hv_P D classes s0.heap.size w18 H := by rw [ew18]; exact hP
              have hM : mK ca K w0 ((((mAo t9 k9 p9 σ).sThrown 0).sTapeSize (σ.tape.length + r)).sTape (vp_updL (vp_updL f ((σ.tape.length + r) / 8) 0) ((σ.tape.length + r) / 8) (0 ||| (((y >>> ((nI (8 * (N - r - 1))).toInt64 &&& 63)) &&& 255) <<< ((nI (8 * ((σ.tape.length + r) % 8))).toInt64 &&& 63))))) B w18 := by rw [ew18]; exact hM.put 13 (by decide) rfl
              have h19 : w18 (K 13) = some (.inl (ca 3, 3, .inr (.inl (vp_updL (vp_updL f ((σ.tape.length + r) / 8) 0) ((σ.tape.length + r) / 8) (0 ||| (((y >>> ((nI (8 * (N - r - 1))).toInt64 &&& 63)) &&& 255) <<< ((nI (8 * ((σ.tape.length + r) % 8))).toInt64 &&& 63))))))) := by rw [ew18]; exact hv_up_s
              refine lv_aload_n hx hb d_Model_type_177 rfl (lv_at hl 1 rfl) ?_
              refine lv_dup hx hb d_Model_type_178 rfl ?_
              have h20 : w18 (K 0) = some (.inr (7, [.int 0, .ref (K 1), .ref (K 2), .ref (K 3), .ref (K 4), .ref (K 5), .ref (K 6), .ref (K 7), .ref (K 8), .ref (K 9), .ref (K 10), .ref (K 11), .ref (K 12), .int (nI (σ.tape.length + r)), .ref (K 13), .int (σ.err), .int (σ.off), .int (σ.ins), .int (nI (σ.sc)), .int (nI (σ.ec)), .int (nI (σ.en)), .int (σ.tr), .int (nI (σ.lo)), .int (σ.wr), .int (nI (σ.due))])) := hM.1.2 0 (by decide)
              refine va_get (D := D) (ci := 7) (v := .int (nI (σ.tape.length + r))) (C := R_Model) (T := F_Model) (N := 25) hx hb hts i_Model hown hK (hv_one hP h20) 0 rfl rfl 13 (by decide) (hts _ k_Model_103) (fun _ h9 => h9) rfl d_Model_type_179 ?_
              refine lv_iconst (v := 1) hx hb d_Model_type_182 (by decide) ?_
              refine gk_iadd (x := σ.tape.length + r) (y := 1) hx hb d_Model_type_183 ?_
              refine hv_put (D := D) (ci := 7) (v := .int (nI ((σ.tape.length + r) + 1))) (ty := .int) (C := R_Model) (T := F_Model) (N := 25) hx hb hts i_Model t_Model t_Model_ok n_Model hown hK hP hS h20 rfl 13 (by decide) (hts _ k_Model_103) (fun _ h9 => h9) rfl (by decide +kernel) rfl rfl (Nat.le_of_ble_eq_true rfl) d_Model_type_184 (fun H locs hP hS => ?_)
              obtain ⟨w21, ew21⟩ : ∃ z9 : hv_W, z9 = va_up w18 (K 0) (some (.inr (7, [.int 0, .ref (K 1), .ref (K 2), .ref (K 3), .ref (K 4), .ref (K 5), .ref (K 6), .ref (K 7), .ref (K 8), .ref (K 9), .ref (K 10), .ref (K 11), .ref (K 12), .int (nI ((σ.tape.length + r) + 1)), .ref (K 13), .int (σ.err), .int (σ.off), .int (σ.ins), .int (nI (σ.sc)), .int (nI (σ.ec)), .int (nI (σ.en)), .int (σ.tr), .int (nI (σ.lo)), .int (σ.wr), .int (nI (σ.due))]))) := ⟨_, rfl⟩
              have hP : hv_P D classes s0.heap.size w21 H := by rw [ew21]; exact hP
              have hM : mK ca K w0 ((((mAo t9 k9 p9 σ).sTape (vp_updL (vp_updL f ((σ.tape.length + r) / 8) 0) ((σ.tape.length + r) / 8) (0 ||| (((y >>> ((nI (8 * (N - r - 1))).toInt64 &&& 63)) &&& 255) <<< ((nI (8 * ((σ.tape.length + r) % 8))).toInt64 &&& 63))))).sThrown 0).sTapeSize ((σ.tape.length + r) + 1)) B w21 := by rw [ew21]; exact hM.put 0 (by decide) rfl
              have h22 : w21 (K 0) = some (.inr (7, [.int 0, .ref (K 1), .ref (K 2), .ref (K 3), .ref (K 4), .ref (K 5), .ref (K 6), .ref (K 7), .ref (K 8), .ref (K 9), .ref (K 10), .ref (K 11), .ref (K 12), .int (nI ((σ.tape.length + r) + 1)), .ref (K 13), .int (σ.err), .int (σ.off), .int (σ.ins), .int (nI (σ.sc)), .int (nI (σ.ec)), .int (nI (σ.en)), .int (σ.tr), .int (nI (σ.lo)), .int (σ.wr), .int (nI (σ.due))])) := by rw [ew21]; exact hv_up_s
              refine lv_iinc (v := (nI (N - (r + 1)) - 1)) (lv' := [(5, .int ((nI (N - (r + 1)) - 1))), (6, .int (nI (σ.tape.length + r))), (0, .ref (K 0)), (1, .long y), (3, .int (nI N)), (4, .int 1)]) hx hb d_Model_type_187 hl (k := 5) rfl t_dn2 (by decide) rfl (fun ls hl => ?_)
              refine lv_goto (tgt := 96) hx hb d_Model_type_190 (by decide) ?_
              exact ihlp2 (r + 1) (vp_updL (vp_updL f ((σ.tape.length + r) / 8) 0) ((σ.tape.length + r) / 8) (0 ||| (((y >>> ((nI (8 * (N - r - 1))).toInt64 &&& 63)) &&& 255) <<< ((nI (8 * ((σ.tape.length + r) % 8))).toInt64 &&& 63)))) w21 (by omega) (by omega) hM (by have z9 := mTp_step (u := vp_updL (vp_updL f ((σ.tape.length + r) / 8) 0) ((σ.tape.length + r) / 8) (0 ||| (((y >>> ((nI (8 * (N - r - 1))).toInt64 &&& 63)) &&& 255) <<< ((nI (8 * ((σ.tape.length + r) % 8))).toInt64 &&& 63)))) (v := 0) (y := y) (k := N - r - 1) (n := σ.tape.length + r) hf (by omega) (by rw [List.length_append, t_acc_len]) (by rw [if_pos c126]) m_uLs (fun i hi => (m_uLn hi).trans (m_uLn hi)); rw [t_acc_s, ← List.append_assoc, show N - 1 - r = N - r - 1 by omega]; exact z9) _ _ _ hP hS (lv_sub hl [2, 3, 4, 5, 0] rfl)
    exact lp2 _ 0 p9 w2 (Nat.lt_succ_self _) (Nat.zero_le _) hM (by rw [show t_acc y N 0 = [] from rfl, List.append_nil]; exact hRel.2.2.2.2.2) _ _ _ hP hS (lv_sub hl [1, 2, 3, 4, 0] rfl)
  refine lv_iload_n hx hb d_Model_type_5 rfl (lv_at hl 2 rfl) ?_
  refine lv_if_le (tgt := 30) hx hb d_Model_type_6 (by decide) (fun c6 => ?_) (fun c6 => ?_)
  · refine lv_iconst (v := 0) hx hb d_Model_type_30 (by decide) ?_
    refine lv_istore (lv' := [(4, .int 0), (0, .ref (K 0)), (1, .long y), (3, .int n)]) hx hb d_Model_type_31 hl (by decide) rfl (fun ls hl => ?_)
    refine lv_iconst (v := 0) hx hb d_Model_type_33 (by decide) ?_
    refine lv_istore (lv' := [(5, .int 0), (4, .int 0), (0, .ref (K 0)), (1, .long y), (3, .int n)]) hx hb d_Model_type_34 hl (by decide) rfl (fun ls hl => ?_)
    refine lv_iload hx hb d_Model_type_36 (lv_at hl 0 rfl) ?_
    refine lv_iload_n hx hb d_Model_type_38 rfl (lv_at hl 4 rfl) ?_
    refine lv_icmp_ge (tgt := 91) hx hb d_Model_type_39 (by decide) (fun c39 => ?_) (fun c39 => ?_)
    · exact jG0 (t_bad1 (t_le0 c6)) _ _ _ hP hS (lv_sub hl [2, 3, 4, 1] rfl)
    · refine lv_iload hx hb d_Model_type_42 (lv_at hl 1 rfl) ?_
      refine lv_if_eq (tgt := 91) hx hb d_Model_type_44 (by decide) (fun c44 => ?_) (fun c44 => ?_)
      · exact jG0 (t_bad1 (t_le0 c6)) _ _ _ hP hS (lv_sub hl [2, 3, 4, 1] rfl)
      · exact absurd c44 (by decide)
  · refine lv_iload_n hx hb d_Model_type_9 rfl (lv_at hl 2 rfl) ?_
    refine lv_bipush (v := 9) hx hb d_Model_type_10 (by decide) ?_
    refine lv_icmp_ge (tgt := 30) hx hb d_Model_type_12 (by decide) (fun c12 => ?_) (fun c12 => ?_)
    · refine lv_iconst (v := 0) hx hb d_Model_type_30 (by decide) ?_
      refine lv_istore (lv' := [(4, .int 0), (0, .ref (K 0)), (1, .long y), (3, .int n)]) hx hb d_Model_type_31 hl (by decide) rfl (fun ls hl => ?_)
      refine lv_iconst (v := 0) hx hb d_Model_type_33 (by decide) ?_
      refine lv_istore (lv' := [(5, .int 0), (4, .int 0), (0, .ref (K 0)), (1, .long y), (3, .int n)]) hx hb d_Model_type_34 hl (by decide) rfl (fun ls hl => ?_)
      refine lv_iload hx hb d_Model_type_36 (lv_at hl 0 rfl) ?_
      refine lv_iload_n hx hb d_Model_type_38 rfl (lv_at hl 4 rfl) ?_
      refine lv_icmp_ge (tgt := 91) hx hb d_Model_type_39 (by decide) (fun c39 => ?_) (fun c39 => ?_)
      · exact jG0 (t_bad2 (t_9 c12)) _ _ _ hP hS (lv_sub hl [2, 3, 4, 1] rfl)
      · refine lv_iload hx hb d_Model_type_42 (lv_at hl 1 rfl) ?_
        refine lv_if_eq (tgt := 91) hx hb d_Model_type_44 (by decide) (fun c44 => ?_) (fun c44 => ?_)
        · exact jG0 (t_bad2 (t_9 c12)) _ _ _ hP hS (lv_sub hl [2, 3, 4, 1] rfl)
        · exact absurd c44 (by decide)
    · obtain ⟨N, hN1, hN8, hne⟩ := t_of2 c6 c12
      subst hne
      refine lv_aload_n hx hb d_Model_type_15 rfl (lv_at hl 0 rfl) ?_
      refine va_get (D := D) (ci := 7) (v := .int (nI (σ.tape.length))) (C := R_Model) (T := F_Model) (N := 25) hx hb hts i_Model hown hK (hv_one hP h3) 0 rfl rfl 13 (by decide) (hts _ k_Model_103) (fun _ h9 => h9) rfl d_Model_type_16 ?_
      refine lv_iload_n hx hb d_Model_type_19 rfl (lv_at hl 2 rfl) ?_
      refine gk_iadd (x := σ.tape.length) (y := N) hx hb d_Model_type_20 ?_
      refine lv_bipush (v := 25) hx hb d_Model_type_21 (by decide) ?_
      refine gk_icmp_ge (x := (σ.tape.length) + N) (y := 25) (tgt := 30) hx hb d_Model_type_23 (by decide) (by omega) (by omega) (fun c23 => ?_) (fun c23 => ?_)
      · refine lv_iconst (v := 0) hx hb d_Model_type_30 (by decide) ?_
        refine lv_istore (lv' := [(4, .int 0), (0, .ref (K 0)), (1, .long y), (3, .int (nI N))]) hx hb d_Model_type_31 hl (by decide) rfl (fun ls hl => ?_)
        refine lv_iconst (v := 0) hx hb d_Model_type_33 (by decide) ?_
        refine lv_istore (lv' := [(5, .int 0), (4, .int 0), (0, .ref (K 0)), (1, .long y), (3, .int (nI N))]) hx hb d_Model_type_34 hl (by decide) rfl (fun ls hl => ?_)
        refine lv_iload hx hb d_Model_type_36 (lv_at hl 0 rfl) ?_
        refine lv_iload_n hx hb d_Model_type_38 rfl (lv_at hl 4 rfl) ?_
        refine gk_icmp_ge (x := 0) (y := N) (tgt := 91) hx hb d_Model_type_39 (by decide) (by omega) (by omega) (fun c39 => ?_) (fun c39 => ?_)
        · exact jG0 (fun z => absurd (t_nI_inj hN8 z).2.1 (by omega)) _ _ _ hP hS (lv_sub hl [2, 3, 4, 1] rfl)
        · refine lv_iload hx hb d_Model_type_42 (lv_at hl 1 rfl) ?_
          refine lv_if_eq (tgt := 91) hx hb d_Model_type_44 (by decide) (fun c44 => ?_) (fun c44 => ?_)
          · exact jG0 (fun z => absurd (t_nI_inj hN8 z).2.1 (by omega)) _ _ _ hP hS (lv_sub hl [2, 3, 4, 1] rfl)
          · exact absurd c44 (by decide)
      · refine lv_iconst (v := 1) hx hb d_Model_type_26 (by decide) ?_
        refine lv_goto (tgt := 31) hx hb d_Model_type_27 (by decide) ?_
        refine lv_istore (lv' := [(4, .int 1), (0, .ref (K 0)), (1, .long y), (3, .int (nI N))]) hx hb d_Model_type_31 hl (by decide) rfl (fun ls hl => ?_)
        refine lv_iconst (v := 0) hx hb d_Model_type_33 (by decide) ?_
        refine lv_istore (lv' := [(5, .int 0), (4, .int 1), (0, .ref (K 0)), (1, .long y), (3, .int (nI N))]) hx hb d_Model_type_34 hl (by decide) rfl (fun ls hl => ?_)
        have lp : ∀ (n9lp : Nat) (k : Nat) (g : Int32), N - k < n9lp → (k ≤ N) → ((g = 1 ∧ ∀ i, i < k → 32 ≤ t_byte y i ∧ t_byte y i ≤ 126) ∨ (g = 0 ∧ ¬ t_good y (nI N) σ.tape.length)) → ∀ (H : Heap) (locs : List Loc) (ls : Array Slot), hv_P D classes s0.heap.size w2 H → va_S (hv_A s0.heap.size) s.heap H locs → lv_has ls 8 [(0, .ref (K 0)), (1, .long y), (3, .int (nI N)), (4, .int g), (5, .int (nI k))] → W p l e rm_Model_type s m ([.ref (K 0), .long y, .int (nI N)] : List Value).toArray below meth c H locs 0 0 Q (F0 m 36 ls []) := by
          intro n9lp
          induction n9lp with
          | zero =>
            intro k g hn9lp
            exact absurd hn9lp (Nat.not_lt_zero _)
          | succ n9lp ihlp =>
            intro k g hn9lp hk hg9 H locs ls hP hS hl
            refine lv_iload hx hb d_Model_type_36 (lv_at hl 4 rfl) ?_
            refine lv_iload_n hx hb d_Model_type_38 rfl (lv_at hl 2 rfl) ?_
            refine gk_icmp_ge (x := k) (y := N) (tgt := 91) hx hb d_Model_type_39 (by decide) (by omega) (by omega) (fun c39 => ?_) (fun c39 => ?_)
            · rcases hg9 with ⟨hg1, hal⟩ | ⟨hg0, hng⟩
              · subst hg1
                exact jG1 ⟨N, rfl, hN1, hN8, by omega, fun i hi => hal i (by omega)⟩ _ _ _ hP hS (lv_sub hl [0, 1, 2, 3] rfl)
              · subst hg0
                exact jG0 hng _ _ _ hP hS (lv_sub hl [0, 1, 2, 3] rfl)
            · refine lv_iload hx hb d_Model_type_42 (lv_at hl 3 rfl) ?_
              refine lv_if_eq (tgt := 91) hx hb d_Model_type_44 (by decide) (fun c44 => ?_) (fun c44 => ?_)
              · obtain ⟨hg0, hng⟩ := hg9.resolve_left (fun z => absurd (z.1.symm.trans c44) (by decide))
                clear c44 hg9
                subst hg0
                exact jG0 hng _ _ _ hP hS (lv_sub hl [0, 1, 2, 3] rfl)
              · obtain ⟨hg1, hal⟩ := hg9.resolve_right (fun z => c44 z.1)
                clear c44 hg9
                subst hg1
                refine lv_lload_n hx hb d_Model_type_47 rfl (lv_at hl 1 rfl) ?_
                refine lv_bipush (v := 8) hx hb d_Model_type_48 (by decide) ?_
                refine lv_iload hx hb d_Model_type_50 (lv_at hl 4 rfl) ?_
                refine gk_imul (x := 8) (y := k) hx hb d_Model_type_52 ?_
                refine lv_lshr (v := y >>> ((nI (8 * k)).toInt64 &&& 63)) hx hb d_Model_type_53 rfl ?_
                refine lv_ldc2 (v := 255) hx hb hown (hts _ k_Model_106) d_Model_type_54 ?_
                refine lv_land hx hb d_Model_type_57 ?_
                refine lv_lstore (lv' := [(6, .long ((y >>> ((nI (8 * k)).toInt64 &&& 63)) &&& 255)), (0, .ref (K 0)), (1, .long y), (3, .int (nI N)), (4, .int 1), (5, .int (nI k))]) hx hb d_Model_type_58 hl (by decide) rfl (fun ls hl => ?_)
                refine lv_lload hx hb d_Model_type_60 (lv_at hl 0 rfl) ?_
                refine lv_ldc2 (v := 31) hx hb hown (hts _ k_Model_108) d_Model_type_62 ?_
                refine W.lcmp hx hb d_Model_type_65 ?_
                refine lv_if_le (tgt := 82) hx hb d_Model_type_66 (by decide) (fun c66 => ?_) (fun c66 => ?_)
                · refine lv_iconst (v := 0) hx hb d_Model_type_82 (by decide) ?_
                  refine lv_istore (lv' := [(4, .int 0), (6, .long ((y >>> ((nI (8 * k)).toInt64 &&& 63)) &&& 255)), (0, .ref (K 0)), (1, .long y), (3, .int (nI N)), (5, .int (nI k))]) hx hb d_Model_type_83 hl (by decide) rfl (fun ls hl => ?_)
                  refine lv_iinc (v := (nI (k + 1))) (lv' := [(5, .int ((nI (k + 1)))), (4, .int 0), (6, .long ((y >>> ((nI (8 * k)).toInt64 &&& 63)) &&& 255)), (0, .ref (K 0)), (1, .long y), (3, .int (nI N))]) hx hb d_Model_type_85 hl (k := 5) rfl (nI_add k 1) (by decide) rfl (fun ls hl => ?_)
                  refine lv_goto (tgt := 36) hx hb d_Model_type_88 (by decide) ?_
                  exact ihlp (k + 1) 0 (by omega) (by omega) (Or.inr ⟨rfl, fun z => (m_t_lo (by omega)).mp c66 ((t_nI_inj hN8 z).2.2 k (by omega)).1⟩) _ _ _ hP hS (lv_sub hl [3, 4, 5, 1, 0] rfl)
                · refine lv_lload hx hb d_Model_type_69 (lv_at hl 0 rfl) ?_
                  refine lv_ldc2 (v := 127) hx hb hown (hts _ k_Model_110) d_Model_type_71 ?_
                  refine W.lcmp hx hb d_Model_type_74 ?_
                  refine lv_if_ge (tgt := 82) hx hb d_Model_type_75 (by decide) (fun c75 => ?_) (fun c75 => ?_)
                  · refine lv_iconst (v := 0) hx hb d_Model_type_82 (by decide) ?_
                    refine lv_istore (lv' := [(4, .int 0), (6, .long ((y >>> ((nI (8 * k)).toInt64 &&& 63)) &&& 255)), (0, .ref (K 0)), (1, .long y), (3, .int (nI N)), (5, .int (nI k))]) hx hb d_Model_type_83 hl (by decide) rfl (fun ls hl => ?_)
                    refine lv_iinc (v := (nI (k + 1))) (lv' := [(5, .int ((nI (k + 1)))), (4, .int 0), (6, .long ((y >>> ((nI (8 * k)).toInt64 &&& 63)) &&& 255)), (0, .ref (K 0)), (1, .long y), (3, .int (nI N))]) hx hb d_Model_type_85 hl (k := 5) rfl (nI_add k 1) (by decide) rfl (fun ls hl => ?_)
                    refine lv_goto (tgt := 36) hx hb d_Model_type_88 (by decide) ?_
                    exact ihlp (k + 1) 0 (by omega) (by omega) (Or.inr ⟨rfl, fun z => (m_t_hi (by omega)).mp c75 ((t_nI_inj hN8 z).2.2 k (by omega)).2⟩) _ _ _ hP hS (lv_sub hl [3, 4, 5, 1, 0] rfl)
                  · refine lv_iconst (v := 1) hx hb d_Model_type_78 (by decide) ?_
                    refine lv_goto (tgt := 83) hx hb d_Model_type_79 (by decide) ?_
                    refine lv_istore (lv' := [(4, .int 1), (6, .long ((y >>> ((nI (8 * k)).toInt64 &&& 63)) &&& 255)), (0, .ref (K 0)), (1, .long y), (3, .int (nI N)), (5, .int (nI k))]) hx hb d_Model_type_83 hl (by decide) rfl (fun ls hl => ?_)
                    refine lv_iinc (v := (nI (k + 1))) (lv' := [(5, .int ((nI (k + 1)))), (4, .int 1), (6, .long ((y >>> ((nI (8 * k)).toInt64 &&& 63)) &&& 255)), (0, .ref (K 0)), (1, .long y), (3, .int (nI N))]) hx hb d_Model_type_85 hl (k := 5) rfl (nI_add k 1) (by decide) rfl (fun ls hl => ?_)
                    refine lv_goto (tgt := 36) hx hb d_Model_type_88 (by decide) ?_
                    exact ihlp (k + 1) 1 (by omega) (by omega) (Or.inl ⟨rfl, fun i hi => (Classical.em (i = k)).elim (fun z => by rw [z]; exact ⟨Classical.byContradiction fun q => c66 ((m_t_lo (by omega)).mpr q), Classical.byContradiction fun q => c75 ((m_t_hi (by omega)).mpr q)⟩) (fun z => hal i (by omega))⟩) _ _ _ hP hS (lv_sub hl [3, 4, 5, 1, 0] rfl)
        exact lp _ 0 1 (Nat.lt_succ_self _) (Nat.zero_le _) (Or.inl ⟨rfl, fun i hi => absurd hi (Nat.not_lt_zero _)⟩) _ _ _ hP hS (lv_sub hl [2, 3, 4, 1, 0] rfl)

abbrev rm_Model_init : Room := { frames := 1, cells := 13, slots := 29603, locals := 12 }
set_option maxHeartbeats 4000000 in
set_option maxRecDepth 100000 in
theorem c_Model_init {l : Launch} {s0 : State} {D : va_G} {ca : Nat → ClassId} (C : hv_C l s0 D (hv_tys ca)) {w : hv_W} {x : Nat} (h0 : w x = some (.inr (7, [.int 0, .null, .null, .null, .null, .null, .null, .null, .null, .null, .null, .null, .null, .int 0, .null, .int 0, .int 0, .int 0, .int 0, .int 0, .int 0, .int 0, .int 0, .int 0, .int 0])))  :
    hv_Met l y_Model_init [.code y_Model_init b_Model_init 1 none] rm_Model_init (hv_Pc s0 D w [.ref x]) (hv_Q s0 D (fun v w' => v = none ∧ ∃ K : Nat → Nat, K 0 = x ∧ mS ca K w' 0 gS0 w' ∧ gkx x w w' ∧ ∀ b, b ≠ x → w b ≠ none → ¬ mM K b) (fun _ _ => False)) 13 29603 (hv_A s0.heap.size) := by
  refine hv_enter C _ (by decide) (Nat.le_of_ble_eq_true rfl) ?_
  intro p e s m below meth c ls Q hQ hx hb hr hml hown hts hK hZ hlocks hname hout htr hP hl
  have hown : s.vm.findClass R_Model = some m.cls := hown
  have hS : va_S (hv_A s0.heap.size) s.heap s.heap [] := va_S.rf
  have hl : lv_has ls 1 [(0, .ref x)] := hl
  have hk0 : gkx x w w := fun _ _ _ h => h
  refine lv_aload_n hx hb d_Model_init_0 rfl (lv_at hl 0 rfl) ?_
  refine W.objInit hx hb hown (hts _ k_Model_1) (hts _ ki_objInit) (hts _ kc_objInit) rfl (by rw [hml]; exact hl.1) rfl d_Model_init_1 (Nat.le_of_ble_eq_true rfl) (Nat.le_of_ble_eq_true rfl) ?_
  show W _ _ _ _ _ _ _ _ _ _ _ _ _ _ _ (F0 m 4 ls [])
  refine lv_aload_n hx hb d_Model_init_4 rfl (lv_at hl 0 rfl) ?_
  refine lv_sipush (v := 640) hx hb d_Model_init_5 (by decide) ?_
  refine hv_newa (a0 := (640, .inl (fun _ => 0))) hx hb (show (Cond.arrayClass (newarray.typeOf .boolean)).before _ s = true from hts _ ka_boolean) rfl hK hP hS hZ.2.1 2 rfl (N' := 640) (fun _ => rfl) (nI_pos (n := 640) (by omega)) (nI_clamp (n := 640) (by omega)) (gk_bytes (Nat.le_trans (Nat.mul_le_mul_left _ (by decide : _ ≤ 8)) (by omega))) (Nat.le_of_ble_eq_true rfl) (by show _ + _ ≤ 29603; omega) d_Model_init_8 (fun q1 H hq2 hP hS => ?_)
  have ne_x_q1 : x ≠ q1 := hv_ne_f hq2 h0
  have hf_q1 : w q1 = none := hk0.fr hq2 (Ne.symm ne_x_q1)
  obtain ⟨w3, ew3⟩ : ∃ z9 : hv_W, z9 = va_up w q1 (some (.inl (ca 2, 640, .inl (fun _ => 0)))) := ⟨_, rfl⟩
  have hP : hv_P D classes s0.heap.size w3 H := by rw [ew3]; exact hP
  have h4 : w3 x = some (.inr (7, [.int 0, .null, .null, .null, .null, .null, .null, .null, .null, .null, .null, .null, .null, .int 0, .null, .int 0, .int 0, .int 0, .int 0, .int 0, .int 0, .int 0, .int 0, .int 0, .int 0])) := by rw [ew3]; exact hv_up_f hq2 h0
  have h5 : w3 q1 = some (.inl (ca 2, 640, .inl (fun _ => 0))) := by rw [ew3]; exact hv_up_s
  have hk1 : gkx x w w3 := by rw [ew3]; exact hk0.new hq2
  refine W.widen (k := 1) (n := 640) (by omega) (by omega) ?_
  show W _ _ _ _ _ _ _ _ _ _ _ _ _ _ _ (F0 m 10 ls [.ref q1, .ref x])
  refine hv_putF (D := D) (ci := 7) (v := .ref q1) (ty := .array .boolean) (C := R_Model) (T := F_Model) (N := 25) hx hb hts i_Model t_Model t_Model_ok n_Model hown hK hP hS h4 rfl 1 (by decide) (hts _ k_Model_7) (fun _ h9 => h9) rfl hname rfl (by decide +kernel) rfl rfl (Nat.le_of_ble_eq_true rfl) d_Model_init_10 (fun H locs hP hS => ?_)
  obtain ⟨w6, ew6⟩ : ∃ z9 : hv_W, z9 = va_up w3 x (some (.inr (7, [.int 0, .ref q1, .null, .null, .null, .null, .null, .null, .null, .null, .null, .null, .null, .int 0, .null, .int 0, .int 0, .int 0, .int 0, .int 0, .int 0, .int 0, .int 0, .int 0, .int 0]))) := ⟨_, rfl⟩
  have hP : hv_P D classes s0.heap.size w6 H := by rw [ew6]; exact hP
  have h7 : w6 q1 = some (.inl (ca 2, 640, .inl (fun _ => 0))) := by rw [ew6]; exact hv_up_k h5 (Ne.symm ne_x_q1)
  have h8 : w6 x = some (.inr (7, [.int 0, .ref q1, .null, .null, .null, .null, .null, .null, .null, .null, .null, .null, .null, .int 0, .null, .int 0, .int 0, .int 0, .int 0, .int 0, .int 0, .int 0, .int 0, .int 0, .int 0])) := by rw [ew6]; exact hv_up_s
  have hk2 : gkx x w w6 := by rw [ew6]; exact hk1.put
  refine lv_aload_n hx hb d_Model_init_13 rfl (lv_at hl 0 rfl) ?_
  refine lv_sipush (v := 640) hx hb d_Model_init_14 (by decide) ?_
  refine hv_newa (a0 := (640, .inl (fun _ => 0))) hx hb (show (Cond.arrayClass (newarray.typeOf .int)).before _ s = true from hts _ ka_int) rfl hK hP hS hZ.2.1 0 rfl (N' := 640) (fun _ => rfl) (nI_pos (n := 640) (by omega)) (nI_clamp (n := 640) (by omega)) (gk_bytes (Nat.le_trans (Nat.mul_le_mul_left _ (by decide : _ ≤ 8)) (by omega))) (Nat.le_of_ble_eq_true rfl) (by show _ + _ ≤ 29603; omega) d_Model_init_17 (fun q9 H hq10 hP hS => ?_)
  have ne_x_q9 : x ≠ q9 := hv_ne_f hq10 h8
  have ne_q1_q9 : q1 ≠ q9 := hv_ne_f hq10 h7
  have hf_q9 : w q9 = none := hk2.fr hq10 (Ne.symm ne_x_q9)
  obtain ⟨w11, ew11⟩ : ∃ z9 : hv_W, z9 = va_up w6 q9 (some (.inl (ca 0, 640, .inl (fun _ => 0)))) := ⟨_, rfl⟩
  have hP : hv_P D classes s0.heap.size w11 H := by rw [ew11]; exact hP
  have h12 : w11 x = some (.inr (7, [.int 0, .ref q1, .null, .null, .null, .null, .null, .null, .null, .null, .null, .null, .null, .int 0, .null, .int 0, .int 0, .int 0, .int 0, .int 0, .int 0, .int 0, .int 0, .int 0, .int 0])) := by rw [ew11]; exact hv_up_f hq10 h8
  have h13 : w11 q1 = some (.inl (ca 2, 640, .inl (fun _ => 0))) := by rw [ew11]; exact hv_up_f hq10 h7
  have h14 : w11 q9 = some (.inl (ca 0, 640, .inl (fun _ => 0))) := by rw [ew11]; exact hv_up_s
  have hk3 : gkx x w w11 := by rw [ew11]; exact hk2.new hq10
  refine W.widen (k := 2) (n := 1280) (by omega) (by omega) ?_
  show W _ _ _ _ _ _ _ _ _ _ _ _ _ _ _ (F0 m 19 ls [.ref q9, .ref x])
  refine hv_putF (D := D) (ci := 7) (v := .ref q9) (ty := .array .int) (C := R_Model) (T := F_Model) (N := 25) hx hb hts i_Model t_Model t_Model_ok n_Model hown hK hP hS h12 rfl 2 (by decide) (hts _ k_Model_13) (fun _ h9 => h9) rfl hname rfl (by decide +kernel) rfl rfl (Nat.le_of_ble_eq_true rfl) d_Model_init_19 (fun H locs hP hS => ?_)
  obtain ⟨w15, ew15⟩ : ∃ z9 : hv_W, z9 = va_up w11 x (some (.inr (7, [.int 0, .ref q1, .ref q9, .null, .null, .null, .null, .null, .null, .null, .null, .null, .null, .int 0, .null, .int 0, .int 0, .int 0, .int 0, .int 0, .int 0, .int 0, .int 0, .int 0, .int 0]))) := ⟨_, rfl⟩
  have hP : hv_P D classes s0.heap.size w15 H := by rw [ew15]; exact hP
  have h16 : w15 q1 = some (.inl (ca 2, 640, .inl (fun _ => 0))) := by rw [ew15]; exact hv_up_k h13 (Ne.symm ne_x_q1)
  have h17 : w15 q9 = some (.inl (ca 0, 640, .inl (fun _ => 0))) := by rw [ew15]; exact hv_up_k h14 (Ne.symm ne_x_q9)
  have h18 : w15 x = some (.inr (7, [.int 0, .ref q1, .ref q9, .null, .null, .null, .null, .null, .null, .null, .null, .null, .null, .int 0, .null, .int 0, .int 0, .int 0, .int 0, .int 0, .int 0, .int 0, .int 0, .int 0, .int 0])) := by rw [ew15]; exact hv_up_s
  have hk4 : gkx x w w15 := by rw [ew15]; exact hk3.put
  refine lv_aload_n hx hb d_Model_init_22 rfl (lv_at hl 0 rfl) ?_
  refine lv_sipush (v := 640) hx hb d_Model_init_23 (by decide) ?_
  refine hv_newa (a0 := (640, .inl (fun _ => 0))) hx hb (show (Cond.arrayClass (newarray.typeOf .int)).before _ s = true from hts _ ka_int) rfl hK hP hS hZ.2.1 0 rfl (N' := 640) (fun _ => rfl) (nI_pos (n := 640) (by omega)) (nI_clamp (n := 640) (by omega)) (gk_bytes (Nat.le_trans (Nat.mul_le_mul_left _ (by decide : _ ≤ 8)) (by omega))) (Nat.le_of_ble_eq_true rfl) (by show _ + _ ≤ 29603; omega) d_Model_init_26 (fun q19 H hq20 hP hS => ?_)
  have ne_x_q19 : x ≠ q19 := hv_ne_f hq20 h18
  have ne_q1_q19 : q1 ≠ q19 := hv_ne_f hq20 h16
  have ne_q9_q19 : q9 ≠ q19 := hv_ne_f hq20 h17
  have hf_q19 : w q19 = none := hk4.fr hq20 (Ne.symm ne_x_q19)
  obtain ⟨w21, ew21⟩ : ∃ z9 : hv_W, z9 = va_up w15 q19 (some (.inl (ca 0, 640, .inl (fun _ => 0)))) := ⟨_, rfl⟩
  have hP : hv_P D classes s0.heap.size w21 H := by rw [ew21]; exact hP
  have h22 : w21 x = some (.inr (7, [.int 0, .ref q1, .ref q9, .null, .null, .null, .null, .null, .null, .null, .null, .null, .null, .int 0, .null, .int 0, .int 0, .int 0, .int 0, .int 0, .int 0, .int 0, .int 0, .int 0, .int 0])) := by rw [ew21]; exact hv_up_f hq20 h18
  have h23 : w21 q1 = some (.inl (ca 2, 640, .inl (fun _ => 0))) := by rw [ew21]; exact hv_up_f hq20 h16
  have h24 : w21 q9 = some (.inl (ca 0, 640, .inl (fun _ => 0))) := by rw [ew21]; exact hv_up_f hq20 h17
  have h25 : w21 q19 = some (.inl (ca 0, 640, .inl (fun _ => 0))) := by rw [ew21]; exact hv_up_s
  have hk5 : gkx x w w21 := by rw [ew21]; exact hk4.new hq20
  refine W.widen (k := 3) (n := 1920) (by omega) (by omega) ?_
  show W _ _ _ _ _ _ _ _ _ _ _ _ _ _ _ (F0 m 28 ls [.ref q19, .ref x])
  refine hv_putF (D := D) (ci := 7) (v := .ref q19) (ty := .array .int) (C := R_Model) (T := F_Model) (N := 25) hx hb hts i_Model t_Model t_Model_ok n_Model hown hK hP hS h22 rfl 3 (by decide) (hts _ k_Model_17) (fun _ h9 => h9) rfl hname rfl (by decide +kernel) rfl rfl (Nat.le_of_ble_eq_true rfl) d_Model_init_28 (fun H locs hP hS => ?_)
  obtain ⟨w26, ew26⟩ : ∃ z9 : hv_W, z9 = va_up w21 x (some (.inr (7, [.int 0, .ref q1, .ref q9, .ref q19, .null, .null, .null, .null, .null, .null, .null, .null, .null, .int 0, .null, .int 0, .int 0, .int 0, .int 0, .int 0, .int 0, .int 0, .int 0, .int 0, .int 0]))) := ⟨_, rfl⟩
  have hP : hv_P D classes s0.heap.size w26 H := by rw [ew26]; exact hP
  have h27 : w26 q1 = some (.inl (ca 2, 640, .inl (fun _ => 0))) := by rw [ew26]; exact hv_up_k h23 (Ne.symm ne_x_q1)
  have h28 : w26 q9 = some (.inl (ca 0, 640, .inl (fun _ => 0))) := by rw [ew26]; exact hv_up_k h24 (Ne.symm ne_x_q9)
  have h29 : w26 q19 = some (.inl (ca 0, 640, .inl (fun _ => 0))) := by rw [ew26]; exact hv_up_k h25 (Ne.symm ne_x_q19)
  have h30 : w26 x = some (.inr (7, [.int 0, .ref q1, .ref q9, .ref q19, .null, .null, .null, .null, .null, .null, .null, .null, .null, .int 0, .null, .int 0, .int 0, .int 0, .int 0, .int 0, .int 0, .int 0, .int 0, .int 0, .int 0])) := by rw [ew26]; exact hv_up_s
  have hk6 : gkx x w w26 := by rw [ew26]; exact hk5.put
  refine lv_aload_n hx hb d_Model_init_31 rfl (lv_at hl 0 rfl) ?_
  refine lv_sipush (v := 640) hx hb d_Model_init_32 (by decide) ?_
  refine hv_newa (a0 := (640, .inl (fun _ => 0))) hx hb (show (Cond.arrayClass (newarray.typeOf .int)).before _ s = true from hts _ ka_int) rfl hK hP hS hZ.2.1 0 rfl (N' := 640) (fun _ => rfl) (nI_pos (n := 640) (by omega)) (nI_clamp (n := 640) (by omega)) (gk_bytes (Nat.le_trans (Nat.mul_le_mul_left _ (by decide : _ ≤ 8)) (by omega))) (Nat.le_of_ble_eq_true rfl) (by show _ + _ ≤ 29603; omega) d_Model_init_35 (fun q31 H hq32 hP hS => ?_)
  have ne_x_q31 : x ≠ q31 := hv_ne_f hq32 h30
  have ne_q1_q31 : q1 ≠ q31 := hv_ne_f hq32 h27
  have ne_q9_q31 : q9 ≠ q31 := hv_ne_f hq32 h28
  have ne_q19_q31 : q19 ≠ q31 := hv_ne_f hq32 h29
  have hf_q31 : w q31 = none := hk6.fr hq32 (Ne.symm ne_x_q31)
  obtain ⟨w33, ew33⟩ : ∃ z9 : hv_W, z9 = va_up w26 q31 (some (.inl (ca 0, 640, .inl (fun _ => 0)))) := ⟨_, rfl⟩
  have hP : hv_P D classes s0.heap.size w33 H := by rw [ew33]; exact hP
  have h34 : w33 x = some (.inr (7, [.int 0, .ref q1, .ref q9, .ref q19, .null, .null, .null, .null, .null, .null, .null, .null, .null, .int 0, .null, .int 0, .int 0, .int 0, .int 0, .int 0, .int 0, .int 0, .int 0, .int 0, .int 0])) := by rw [ew33]; exact hv_up_f hq32 h30
  have h35 : w33 q1 = some (.inl (ca 2, 640, .inl (fun _ => 0))) := by rw [ew33]; exact hv_up_f hq32 h27
  have h36 : w33 q9 = some (.inl (ca 0, 640, .inl (fun _ => 0))) := by rw [ew33]; exact hv_up_f hq32 h28
  have h37 : w33 q19 = some (.inl (ca 0, 640, .inl (fun _ => 0))) := by rw [ew33]; exact hv_up_f hq32 h29
  have h38 : w33 q31 = some (.inl (ca 0, 640, .inl (fun _ => 0))) := by rw [ew33]; exact hv_up_s
  have hk7 : gkx x w w33 := by rw [ew33]; exact hk6.new hq32
  refine W.widen (k := 4) (n := 2560) (by omega) (by omega) ?_
  show W _ _ _ _ _ _ _ _ _ _ _ _ _ _ _ (F0 m 37 ls [.ref q31, .ref x])
  refine hv_putF (D := D) (ci := 7) (v := .ref q31) (ty := .array .int) (C := R_Model) (T := F_Model) (N := 25) hx hb hts i_Model t_Model t_Model_ok n_Model hown hK hP hS h34 rfl 4 (by decide) (hts _ k_Model_20) (fun _ h9 => h9) rfl hname rfl (by decide +kernel) rfl rfl (Nat.le_of_ble_eq_true rfl) d_Model_init_37 (fun H locs hP hS => ?_)
  obtain ⟨w39, ew39⟩ : ∃ z9 : hv_W, z9 = va_up w33 x (some (.inr (7, [.int 0, .ref q1, .ref q9, .ref q19, .ref q31, .null, .null, .null, .null, .null, .null, .null, .null, .int 0, .null, .int 0, .int 0, .int 0, .int 0, .int 0, .int 0, .int 0, .int 0, .int 0, .int 0]))) := ⟨_, rfl⟩
  have hP : hv_P D classes s0.heap.size w39 H := by rw [ew39]; exact hP
  have h40 : w39 q1 = some (.inl (ca 2, 640, .inl (fun _ => 0))) := by rw [ew39]; exact hv_up_k h35 (Ne.symm ne_x_q1)
  have h41 : w39 q9 = some (.inl (ca 0, 640, .inl (fun _ => 0))) := by rw [ew39]; exact hv_up_k h36 (Ne.symm ne_x_q9)
  have h42 : w39 q19 = some (.inl (ca 0, 640, .inl (fun _ => 0))) := by rw [ew39]; exact hv_up_k h37 (Ne.symm ne_x_q19)
  have h43 : w39 q31 = some (.inl (ca 0, 640, .inl (fun _ => 0))) := by rw [ew39]; exact hv_up_k h38 (Ne.symm ne_x_q31)
  have h44 : w39 x = some (.inr (7, [.int 0, .ref q1, .ref q9, .ref q19, .ref q31, .null, .null, .null, .null, .null, .null, .null, .null, .int 0, .null, .int 0, .int 0, .int 0, .int 0, .int 0, .int 0, .int 0, .int 0, .int 0, .int 0])) := by rw [ew39]; exact hv_up_s
  have hk8 : gkx x w w39 := by rw [ew39]; exact hk7.put
  refine lv_aload_n hx hb d_Model_init_40 rfl (lv_at hl 0 rfl) ?_
  refine lv_sipush (v := 640) hx hb d_Model_init_41 (by decide) ?_
  refine hv_newa (a0 := (640, .inl (fun _ => 0))) hx hb (show (Cond.arrayClass (newarray.typeOf .int)).before _ s = true from hts _ ka_int) rfl hK hP hS hZ.2.1 0 rfl (N' := 640) (fun _ => rfl) (nI_pos (n := 640) (by omega)) (nI_clamp (n := 640) (by omega)) (gk_bytes (Nat.le_trans (Nat.mul_le_mul_left _ (by decide : _ ≤ 8)) (by omega))) (Nat.le_of_ble_eq_true rfl) (by show _ + _ ≤ 29603; omega) d_Model_init_44 (fun q45 H hq46 hP hS => ?_)
  have ne_x_q45 : x ≠ q45 := hv_ne_f hq46 h44
  have ne_q1_q45 : q1 ≠ q45 := hv_ne_f hq46 h40
  have ne_q9_q45 : q9 ≠ q45 := hv_ne_f hq46 h41
  have ne_q19_q45 : q19 ≠ q45 := hv_ne_f hq46 h42
  have ne_q31_q45 : q31 ≠ q45 := hv_ne_f hq46 h43
  have hf_q45 : w q45 = none := hk8.fr hq46 (Ne.symm ne_x_q45)
  obtain ⟨w47, ew47⟩ : ∃ z9 : hv_W, z9 = va_up w39 q45 (some (.inl (ca 0, 640, .inl (fun _ => 0)))) := ⟨_, rfl⟩
  have hP : hv_P D classes s0.heap.size w47 H := by rw [ew47]; exact hP
  have h48 : w47 x = some (.inr (7, [.int 0, .ref q1, .ref q9, .ref q19, .ref q31, .null, .null, .null, .null, .null, .null, .null, .null, .int 0, .null, .int 0, .int 0, .int 0, .int 0, .int 0, .int 0, .int 0, .int 0, .int 0, .int 0])) := by rw [ew47]; exact hv_up_f hq46 h44
  have h49 : w47 q1 = some (.inl (ca 2, 640, .inl (fun _ => 0))) := by rw [ew47]; exact hv_up_f hq46 h40
  have h50 : w47 q9 = some (.inl (ca 0, 640, .inl (fun _ => 0))) := by rw [ew47]; exact hv_up_f hq46 h41
  have h51 : w47 q19 = some (.inl (ca 0, 640, .inl (fun _ => 0))) := by rw [ew47]; exact hv_up_f hq46 h42
  have h52 : w47 q31 = some (.inl (ca 0, 640, .inl (fun _ => 0))) := by rw [ew47]; exact hv_up_f hq46 h43
  have h53 : w47 q45 = some (.inl (ca 0, 640, .inl (fun _ => 0))) := by rw [ew47]; exact hv_up_s
  have hk9 : gkx x w w47 := by rw [ew47]; exact hk8.new hq46
  refine W.widen (k := 5) (n := 3200) (by omega) (by omega) ?_
  show W _ _ _ _ _ _ _ _ _ _ _ _ _ _ _ (F0 m 46 ls [.ref q45, .ref x])
  refine hv_putF (D := D) (ci := 7) (v := .ref q45) (ty := .array .int) (C := R_Model) (T := F_Model) (N := 25) hx hb hts i_Model t_Model t_Model_ok n_Model hown hK hP hS h48 rfl 5 (by decide) (hts _ k_Model_23) (fun _ h9 => h9) rfl hname rfl (by decide +kernel) rfl rfl (Nat.le_of_ble_eq_true rfl) d_Model_init_46 (fun H locs hP hS => ?_)
  obtain ⟨w54, ew54⟩ : ∃ z9 : hv_W, z9 = va_up w47 x (some (.inr (7, [.int 0, .ref q1, .ref q9, .ref q19, .ref q31, .ref q45, .null, .null, .null, .null, .null, .null, .null, .int 0, .null, .int 0, .int 0, .int 0, .int 0, .int 0, .int 0, .int 0, .int 0, .int 0, .int 0]))) := ⟨_, rfl⟩
  have hP : hv_P D classes s0.heap.size w54 H := by rw [ew54]; exact hP
  have h55 : w54 q1 = some (.inl (ca 2, 640, .inl (fun _ => 0))) := by rw [ew54]; exact hv_up_k h49 (Ne.symm ne_x_q1)
  have h56 : w54 q9 = some (.inl (ca 0, 640, .inl (fun _ => 0))) := by rw [ew54]; exact hv_up_k h50 (Ne.symm ne_x_q9)
  have h57 : w54 q19 = some (.inl (ca 0, 640, .inl (fun _ => 0))) := by rw [ew54]; exact hv_up_k h51 (Ne.symm ne_x_q19)
  have h58 : w54 q31 = some (.inl (ca 0, 640, .inl (fun _ => 0))) := by rw [ew54]; exact hv_up_k h52 (Ne.symm ne_x_q31)
  have h59 : w54 q45 = some (.inl (ca 0, 640, .inl (fun _ => 0))) := by rw [ew54]; exact hv_up_k h53 (Ne.symm ne_x_q45)
  have h60 : w54 x = some (.inr (7, [.int 0, .ref q1, .ref q9, .ref q19, .ref q31, .ref q45, .null, .null, .null, .null, .null, .null, .null, .int 0, .null, .int 0, .int 0, .int 0, .int 0, .int 0, .int 0, .int 0, .int 0, .int 0, .int 0])) := by rw [ew54]; exact hv_up_s
  have hk10 : gkx x w w54 := by rw [ew54]; exact hk9.put
  refine lv_aload_n hx hb d_Model_init_49 rfl (lv_at hl 0 rfl) ?_
  refine lv_sipush (v := 2560) hx hb d_Model_init_50 (by decide) ?_
  refine hv_newa (a0 := (2560, .inl (fun _ => 0))) hx hb (show (Cond.arrayClass (newarray.typeOf .int)).before _ s = true from hts _ ka_int) rfl hK hP hS hZ.2.1 0 rfl (N' := 2560) (fun _ => rfl) (nI_pos (n := 2560) (by omega)) (nI_clamp (n := 2560) (by omega)) (gk_bytes (Nat.le_trans (Nat.mul_le_mul_left _ (by decide : _ ≤ 8)) (by omega))) (Nat.le_of_ble_eq_true rfl) (by show _ + _ ≤ 29603; omega) d_Model_init_53 (fun q61 H hq62 hP hS => ?_)
  have ne_x_q61 : x ≠ q61 := hv_ne_f hq62 h60
  have ne_q1_q61 : q1 ≠ q61 := hv_ne_f hq62 h55
  have ne_q9_q61 : q9 ≠ q61 := hv_ne_f hq62 h56
  have ne_q19_q61 : q19 ≠ q61 := hv_ne_f hq62 h57
  have ne_q31_q61 : q31 ≠ q61 := hv_ne_f hq62 h58
  have ne_q45_q61 : q45 ≠ q61 := hv_ne_f hq62 h59
  have hf_q61 : w q61 = none := hk10.fr hq62 (Ne.symm ne_x_q61)
  obtain ⟨w63, ew63⟩ : ∃ z9 : hv_W, z9 = va_up w54 q61 (some (.inl (ca 0, 2560, .inl (fun _ => 0)))) := ⟨_, rfl⟩
  have hP : hv_P D classes s0.heap.size w63 H := by rw [ew63]; exact hP
  have h64 : w63 x = some (.inr (7, [.int 0, .ref q1, .ref q9, .ref q19, .ref q31, .ref q45, .null, .null, .null, .null, .null, .null, .null, .int 0, .null, .int 0, .int 0, .int 0, .int 0, .int 0, .int 0, .int 0, .int 0, .int 0, .int 0])) := by rw [ew63]; exact hv_up_f hq62 h60
  have h65 : w63 q1 = some (.inl (ca 2, 640, .inl (fun _ => 0))) := by rw [ew63]; exact hv_up_f hq62 h55
  have h66 : w63 q9 = some (.inl (ca 0, 640, .inl (fun _ => 0))) := by rw [ew63]; exact hv_up_f hq62 h56
  have h67 : w63 q19 = some (.inl (ca 0, 640, .inl (fun _ => 0))) := by rw [ew63]; exact hv_up_f hq62 h57
  have h68 : w63 q31 = some (.inl (ca 0, 640, .inl (fun _ => 0))) := by rw [ew63]; exact hv_up_f hq62 h58
  have h69 : w63 q45 = some (.inl (ca 0, 640, .inl (fun _ => 0))) := by rw [ew63]; exact hv_up_f hq62 h59
  have h70 : w63 q61 = some (.inl (ca 0, 2560, .inl (fun _ => 0))) := by rw [ew63]; exact hv_up_s
  have hk11 : gkx x w w63 := by rw [ew63]; exact hk10.new hq62
  refine W.widen (k := 6) (n := 5760) (by omega) (by omega) ?_
  show W _ _ _ _ _ _ _ _ _ _ _ _ _ _ _ (F0 m 55 ls [.ref q61, .ref x])
  refine hv_putF (D := D) (ci := 7) (v := .ref q61) (ty := .array .int) (C := R_Model) (T := F_Model) (N := 25) hx hb hts i_Model t_Model t_Model_ok n_Model hown hK hP hS h64 rfl 6 (by decide) (hts _ k_Model_26) (fun _ h9 => h9) rfl hname rfl (by decide +kernel) rfl rfl (Nat.le_of_ble_eq_true rfl) d_Model_init_55 (fun H locs hP hS => ?_)
  obtain ⟨w71, ew71⟩ : ∃ z9 : hv_W, z9 = va_up w63 x (some (.inr (7, [.int 0, .ref q1, .ref q9, .ref q19, .ref q31, .ref q45, .ref q61, .null, .null, .null, .null, .null, .null, .int 0, .null, .int 0, .int 0, .int 0, .int 0, .int 0, .int 0, .int 0, .int 0, .int 0, .int 0]))) := ⟨_, rfl⟩
  have hP : hv_P D classes s0.heap.size w71 H := by rw [ew71]; exact hP
  have h72 : w71 q1 = some (.inl (ca 2, 640, .inl (fun _ => 0))) := by rw [ew71]; exact hv_up_k h65 (Ne.symm ne_x_q1)
  have h73 : w71 q9 = some (.inl (ca 0, 640, .inl (fun _ => 0))) := by rw [ew71]; exact hv_up_k h66 (Ne.symm ne_x_q9)
  have h74 : w71 q19 = some (.inl (ca 0, 640, .inl (fun _ => 0))) := by rw [ew71]; exact hv_up_k h67 (Ne.symm ne_x_q19)
  have h75 : w71 q31 = some (.inl (ca 0, 640, .inl (fun _ => 0))) := by rw [ew71]; exact hv_up_k h68 (Ne.symm ne_x_q31)
  have h76 : w71 q45 = some (.inl (ca 0, 640, .inl (fun _ => 0))) := by rw [ew71]; exact hv_up_k h69 (Ne.symm ne_x_q45)
  have h77 : w71 q61 = some (.inl (ca 0, 2560, .inl (fun _ => 0))) := by rw [ew71]; exact hv_up_k h70 (Ne.symm ne_x_q61)
  have h78 : w71 x = some (.inr (7, [.int 0, .ref q1, .ref q9, .ref q19, .ref q31, .ref q45, .ref q61, .null, .null, .null, .null, .null, .null, .int 0, .null, .int 0, .int 0, .int 0, .int 0, .int 0, .int 0, .int 0, .int 0, .int 0, .int 0])) := by rw [ew71]; exact hv_up_s
  have hk12 : gkx x w w71 := by rw [ew71]; exact hk11.put
  refine lv_aload_n hx hb d_Model_init_58 rfl (lv_at hl 0 rfl) ?_
  refine lv_sipush (v := 640) hx hb d_Model_init_59 (by decide) ?_
  refine hv_newa (a0 := (640, .inl (fun _ => 0))) hx hb (show (Cond.arrayClass (newarray.typeOf .int)).before _ s = true from hts _ ka_int) rfl hK hP hS hZ.2.1 0 rfl (N' := 640) (fun _ => rfl) (nI_pos (n := 640) (by omega)) (nI_clamp (n := 640) (by omega)) (gk_bytes (Nat.le_trans (Nat.mul_le_mul_left _ (by decide : _ ≤ 8)) (by omega))) (Nat.le_of_ble_eq_true rfl) (by show _ + _ ≤ 29603; omega) d_Model_init_62 (fun q79 H hq80 hP hS => ?_)
  have ne_x_q79 : x ≠ q79 := hv_ne_f hq80 h78
  have ne_q1_q79 : q1 ≠ q79 := hv_ne_f hq80 h72
  have ne_q9_q79 : q9 ≠ q79 := hv_ne_f hq80 h73
  have ne_q19_q79 : q19 ≠ q79 := hv_ne_f hq80 h74
  have ne_q31_q79 : q31 ≠ q79 := hv_ne_f hq80 h75
  have ne_q45_q79 : q45 ≠ q79 := hv_ne_f hq80 h76
  have ne_q61_q79 : q61 ≠ q79 := hv_ne_f hq80 h77
  have hf_q79 : w q79 = none := hk12.fr hq80 (Ne.symm ne_x_q79)
  obtain ⟨w81, ew81⟩ : ∃ z9 : hv_W, z9 = va_up w71 q79 (some (.inl (ca 0, 640, .inl (fun _ => 0)))) := ⟨_, rfl⟩
  have hP : hv_P D classes s0.heap.size w81 H := by rw [ew81]; exact hP
  have h82 : w81 x = some (.inr (7, [.int 0, .ref q1, .ref q9, .ref q19, .ref q31, .ref q45, .ref q61, .null, .null, .null, .null, .null, .null, .int 0, .null, .int 0, .int 0, .int 0, .int 0, .int 0, .int 0, .int 0, .int 0, .int 0, .int 0])) := by rw [ew81]; exact hv_up_f hq80 h78
  have h83 : w81 q1 = some (.inl (ca 2, 640, .inl (fun _ => 0))) := by rw [ew81]; exact hv_up_f hq80 h72
  have h84 : w81 q9 = some (.inl (ca 0, 640, .inl (fun _ => 0))) := by rw [ew81]; exact hv_up_f hq80 h73
  have h85 : w81 q19 = some (.inl (ca 0, 640, .inl (fun _ => 0))) := by rw [ew81]; exact hv_up_f hq80 h74
  have h86 : w81 q31 = some (.inl (ca 0, 640, .inl (fun _ => 0))) := by rw [ew81]; exact hv_up_f hq80 h75
  have h87 : w81 q45 = some (.inl (ca 0, 640, .inl (fun _ => 0))) := by rw [ew81]; exact hv_up_f hq80 h76
  have h88 : w81 q61 = some (.inl (ca 0, 2560, .inl (fun _ => 0))) := by rw [ew81]; exact hv_up_f hq80 h77
  have h89 : w81 q79 = some (.inl (ca 0, 640, .inl (fun _ => 0))) := by rw [ew81]; exact hv_up_s
  have hk13 : gkx x w w81 := by rw [ew81]; exact hk12.new hq80
  refine W.widen (k := 7) (n := 6400) (by omega) (by omega) ?_
  show W _ _ _ _ _ _ _ _ _ _ _ _ _ _ _ (F0 m 64 ls [.ref q79, .ref x])
  refine hv_putF (D := D) (ci := 7) (v := .ref q79) (ty := .array .int) (C := R_Model) (T := F_Model) (N := 25) hx hb hts i_Model t_Model t_Model_ok n_Model hown hK hP hS h82 rfl 7 (by decide) (hts _ k_Model_29) (fun _ h9 => h9) rfl hname rfl (by decide +kernel) rfl rfl (Nat.le_of_ble_eq_true rfl) d_Model_init_64 (fun H locs hP hS => ?_)
  obtain ⟨w90, ew90⟩ : ∃ z9 : hv_W, z9 = va_up w81 x (some (.inr (7, [.int 0, .ref q1, .ref q9, .ref q19, .ref q31, .ref q45, .ref q61, .ref q79, .null, .null, .null, .null, .null, .int 0, .null, .int 0, .int 0, .int 0, .int 0, .int 0, .int 0, .int 0, .int 0, .int 0, .int 0]))) := ⟨_, rfl⟩
  have hP : hv_P D classes s0.heap.size w90 H := by rw [ew90]; exact hP
  have h91 : w90 q1 = some (.inl (ca 2, 640, .inl (fun _ => 0))) := by rw [ew90]; exact hv_up_k h83 (Ne.symm ne_x_q1)
  have h92 : w90 q9 = some (.inl (ca 0, 640, .inl (fun _ => 0))) := by rw [ew90]; exact hv_up_k h84 (Ne.symm ne_x_q9)
  have h93 : w90 q19 = some (.inl (ca 0, 640, .inl (fun _ => 0))) := by rw [ew90]; exact hv_up_k h85 (Ne.symm ne_x_q19)
  have h94 : w90 q31 = some (.inl (ca 0, 640, .inl (fun _ => 0))) := by rw [ew90]; exact hv_up_k h86 (Ne.symm ne_x_q31)
  have h95 : w90 q45 = some (.inl (ca 0, 640, .inl (fun _ => 0))) := by rw [ew90]; exact hv_up_k h87 (Ne.symm ne_x_q45)
  have h96 : w90 q61 = some (.inl (ca 0, 2560, .inl (fun _ => 0))) := by rw [ew90]; exact hv_up_k h88 (Ne.symm ne_x_q61)
  have h97 : w90 q79 = some (.inl (ca 0, 640, .inl (fun _ => 0))) := by rw [ew90]; exact hv_up_k h89 (Ne.symm ne_x_q79)
  have h98 : w90 x = some (.inr (7, [.int 0, .ref q1, .ref q9, .ref q19, .ref q31, .ref q45, .ref q61, .ref q79, .null, .null, .null, .null, .null, .int 0, .null, .int 0, .int 0, .int 0, .int 0, .int 0, .int 0, .int 0, .int 0, .int 0, .int 0])) := by rw [ew90]; exact hv_up_s
  have hk14 : gkx x w w90 := by rw [ew90]; exact hk13.put
  refine lv_aload_n hx hb d_Model_init_67 rfl (lv_at hl 0 rfl) ?_
  refine lv_sipush (v := 3840) hx hb d_Model_init_68 (by decide) ?_
  refine hv_newa (a0 := (3840, .inl (fun _ => 0))) hx hb (show (Cond.arrayClass (newarray.typeOf .int)).before _ s = true from hts _ ka_int) rfl hK hP hS hZ.2.1 0 rfl (N' := 3840) (fun _ => rfl) (nI_pos (n := 3840) (by omega)) (nI_clamp (n := 3840) (by omega)) (gk_bytes (Nat.le_trans (Nat.mul_le_mul_left _ (by decide : _ ≤ 8)) (by omega))) (Nat.le_of_ble_eq_true rfl) (by show _ + _ ≤ 29603; omega) d_Model_init_71 (fun q99 H hq100 hP hS => ?_)
  have ne_x_q99 : x ≠ q99 := hv_ne_f hq100 h98
  have ne_q1_q99 : q1 ≠ q99 := hv_ne_f hq100 h91
  have ne_q9_q99 : q9 ≠ q99 := hv_ne_f hq100 h92
  have ne_q19_q99 : q19 ≠ q99 := hv_ne_f hq100 h93
  have ne_q31_q99 : q31 ≠ q99 := hv_ne_f hq100 h94
  have ne_q45_q99 : q45 ≠ q99 := hv_ne_f hq100 h95
  have ne_q61_q99 : q61 ≠ q99 := hv_ne_f hq100 h96
  have ne_q79_q99 : q79 ≠ q99 := hv_ne_f hq100 h97
  have hf_q99 : w q99 = none := hk14.fr hq100 (Ne.symm ne_x_q99)
  obtain ⟨w101, ew101⟩ : ∃ z9 : hv_W, z9 = va_up w90 q99 (some (.inl (ca 0, 3840, .inl (fun _ => 0)))) := ⟨_, rfl⟩
  have hP : hv_P D classes s0.heap.size w101 H := by rw [ew101]; exact hP
  have h102 : w101 x = some (.inr (7, [.int 0, .ref q1, .ref q9, .ref q19, .ref q31, .ref q45, .ref q61, .ref q79, .null, .null, .null, .null, .null, .int 0, .null, .int 0, .int 0, .int 0, .int 0, .int 0, .int 0, .int 0, .int 0, .int 0, .int 0])) := by rw [ew101]; exact hv_up_f hq100 h98
  have h103 : w101 q1 = some (.inl (ca 2, 640, .inl (fun _ => 0))) := by rw [ew101]; exact hv_up_f hq100 h91
  have h104 : w101 q9 = some (.inl (ca 0, 640, .inl (fun _ => 0))) := by rw [ew101]; exact hv_up_f hq100 h92
  have h105 : w101 q19 = some (.inl (ca 0, 640, .inl (fun _ => 0))) := by rw [ew101]; exact hv_up_f hq100 h93
  have h106 : w101 q31 = some (.inl (ca 0, 640, .inl (fun _ => 0))) := by rw [ew101]; exact hv_up_f hq100 h94
  have h107 : w101 q45 = some (.inl (ca 0, 640, .inl (fun _ => 0))) := by rw [ew101]; exact hv_up_f hq100 h95
  have h108 : w101 q61 = some (.inl (ca 0, 2560, .inl (fun _ => 0))) := by rw [ew101]; exact hv_up_f hq100 h96
  have h109 : w101 q79 = some (.inl (ca 0, 640, .inl (fun _ => 0))) := by rw [ew101]; exact hv_up_f hq100 h97
  have h110 : w101 q99 = some (.inl (ca 0, 3840, .inl (fun _ => 0))) := by rw [ew101]; exact hv_up_s
  have hk15 : gkx x w w101 := by rw [ew101]; exact hk14.new hq100
  refine W.widen (k := 8) (n := 10240) (by omega) (by omega) ?_
  show W _ _ _ _ _ _ _ _ _ _ _ _ _ _ _ (F0 m 73 ls [.ref q99, .ref x])
  refine hv_putF (D := D) (ci := 7) (v := .ref q99) (ty := .array .int) (C := R_Model) (T := F_Model) (N := 25) hx hb hts i_Model t_Model t_Model_ok n_Model hown hK hP hS h102 rfl 8 (by decide) (hts _ k_Model_32) (fun _ h9 => h9) rfl hname rfl (by decide +kernel) rfl rfl (Nat.le_of_ble_eq_true rfl) d_Model_init_73 (fun H locs hP hS => ?_)
  obtain ⟨w111, ew111⟩ : ∃ z9 : hv_W, z9 = va_up w101 x (some (.inr (7, [.int 0, .ref q1, .ref q9, .ref q19, .ref q31, .ref q45, .ref q61, .ref q79, .ref q99, .null, .null, .null, .null, .int 0, .null, .int 0, .int 0, .int 0, .int 0, .int 0, .int 0, .int 0, .int 0, .int 0, .int 0]))) := ⟨_, rfl⟩
  have hP : hv_P D classes s0.heap.size w111 H := by rw [ew111]; exact hP
  have h112 : w111 q1 = some (.inl (ca 2, 640, .inl (fun _ => 0))) := by rw [ew111]; exact hv_up_k h103 (Ne.symm ne_x_q1)
  have h113 : w111 q9 = some (.inl (ca 0, 640, .inl (fun _ => 0))) := by rw [ew111]; exact hv_up_k h104 (Ne.symm ne_x_q9)
  have h114 : w111 q19 = some (.inl (ca 0, 640, .inl (fun _ => 0))) := by rw [ew111]; exact hv_up_k h105 (Ne.symm ne_x_q19)
  have h115 : w111 q31 = some (.inl (ca 0, 640, .inl (fun _ => 0))) := by rw [ew111]; exact hv_up_k h106 (Ne.symm ne_x_q31)
  have h116 : w111 q45 = some (.inl (ca 0, 640, .inl (fun _ => 0))) := by rw [ew111]; exact hv_up_k h107 (Ne.symm ne_x_q45)
  have h117 : w111 q61 = some (.inl (ca 0, 2560, .inl (fun _ => 0))) := by rw [ew111]; exact hv_up_k h108 (Ne.symm ne_x_q61)
  have h118 : w111 q79 = some (.inl (ca 0, 640, .inl (fun _ => 0))) := by rw [ew111]; exact hv_up_k h109 (Ne.symm ne_x_q79)
  have h119 : w111 q99 = some (.inl (ca 0, 3840, .inl (fun _ => 0))) := by rw [ew111]; exact hv_up_k h110 (Ne.symm ne_x_q99)
  have h120 : w111 x = some (.inr (7, [.int 0, .ref q1, .ref q9, .ref q19, .ref q31, .ref q45, .ref q61, .ref q79, .ref q99, .null, .null, .null, .null, .int 0, .null, .int 0, .int 0, .int 0, .int 0, .int 0, .int 0, .int 0, .int 0, .int 0, .int 0])) := by rw [ew111]; exact hv_up_s
  have hk16 : gkx x w w111 := by rw [ew111]; exact hk15.put
  refine lv_aload_n hx hb d_Model_init_76 rfl (lv_at hl 0 rfl) ?_
  refine lv_sipush (v := 3840) hx hb d_Model_init_77 (by decide) ?_
  refine hv_newa (a0 := (3840, .inl (fun _ => 0))) hx hb (show (Cond.arrayClass (newarray.typeOf .int)).before _ s = true from hts _ ka_int) rfl hK hP hS hZ.2.1 0 rfl (N' := 3840) (fun _ => rfl) (nI_pos (n := 3840) (by omega)) (nI_clamp (n := 3840) (by omega)) (gk_bytes (Nat.le_trans (Nat.mul_le_mul_left _ (by decide : _ ≤ 8)) (by omega))) (Nat.le_of_ble_eq_true rfl) (by show _ + _ ≤ 29603; omega) d_Model_init_80 (fun q121 H hq122 hP hS => ?_)
  have ne_x_q121 : x ≠ q121 := hv_ne_f hq122 h120
  have ne_q1_q121 : q1 ≠ q121 := hv_ne_f hq122 h112
  have ne_q9_q121 : q9 ≠ q121 := hv_ne_f hq122 h113
  have ne_q19_q121 : q19 ≠ q121 := hv_ne_f hq122 h114
  have ne_q31_q121 : q31 ≠ q121 := hv_ne_f hq122 h115
  have ne_q45_q121 : q45 ≠ q121 := hv_ne_f hq122 h116
  have ne_q61_q121 : q61 ≠ q121 := hv_ne_f hq122 h117
  have ne_q79_q121 : q79 ≠ q121 := hv_ne_f hq122 h118
  have ne_q99_q121 : q99 ≠ q121 := hv_ne_f hq122 h119
  have hf_q121 : w q121 = none := hk16.fr hq122 (Ne.symm ne_x_q121)
  obtain ⟨w123, ew123⟩ : ∃ z9 : hv_W, z9 = va_up w111 q121 (some (.inl (ca 0, 3840, .inl (fun _ => 0)))) := ⟨_, rfl⟩
  have hP : hv_P D classes s0.heap.size w123 H := by rw [ew123]; exact hP
  have h124 : w123 x = some (.inr (7, [.int 0, .ref q1, .ref q9, .ref q19, .ref q31, .ref q45, .ref q61, .ref q79, .ref q99, .null, .null, .null, .null, .int 0, .null, .int 0, .int 0, .int 0, .int 0, .int 0, .int 0, .int 0, .int 0, .int 0, .int 0])) := by rw [ew123]; exact hv_up_f hq122 h120
  have h125 : w123 q1 = some (.inl (ca 2, 640, .inl (fun _ => 0))) := by rw [ew123]; exact hv_up_f hq122 h112
  have h126 : w123 q9 = some (.inl (ca 0, 640, .inl (fun _ => 0))) := by rw [ew123]; exact hv_up_f hq122 h113
  have h127 : w123 q19 = some (.inl (ca 0, 640, .inl (fun _ => 0))) := by rw [ew123]; exact hv_up_f hq122 h114
  have h128 : w123 q31 = some (.inl (ca 0, 640, .inl (fun _ => 0))) := by rw [ew123]; exact hv_up_f hq122 h115
  have h129 : w123 q45 = some (.inl (ca 0, 640, .inl (fun _ => 0))) := by rw [ew123]; exact hv_up_f hq122 h116
  have h130 : w123 q61 = some (.inl (ca 0, 2560, .inl (fun _ => 0))) := by rw [ew123]; exact hv_up_f hq122 h117
  have h131 : w123 q79 = some (.inl (ca 0, 640, .inl (fun _ => 0))) := by rw [ew123]; exact hv_up_f hq122 h118
  have h132 : w123 q99 = some (.inl (ca 0, 3840, .inl (fun _ => 0))) := by rw [ew123]; exact hv_up_f hq122 h119
  have h133 : w123 q121 = some (.inl (ca 0, 3840, .inl (fun _ => 0))) := by rw [ew123]; exact hv_up_s
  have hk17 : gkx x w w123 := by rw [ew123]; exact hk16.new hq122
  refine W.widen (k := 9) (n := 14080) (by omega) (by omega) ?_
  show W _ _ _ _ _ _ _ _ _ _ _ _ _ _ _ (F0 m 82 ls [.ref q121, .ref x])
  refine hv_putF (D := D) (ci := 7) (v := .ref q121) (ty := .array .int) (C := R_Model) (T := F_Model) (N := 25) hx hb hts i_Model t_Model t_Model_ok n_Model hown hK hP hS h124 rfl 9 (by decide) (hts _ k_Model_35) (fun _ h9 => h9) rfl hname rfl (by decide +kernel) rfl rfl (Nat.le_of_ble_eq_true rfl) d_Model_init_82 (fun H locs hP hS => ?_)
  obtain ⟨w134, ew134⟩ : ∃ z9 : hv_W, z9 = va_up w123 x (some (.inr (7, [.int 0, .ref q1, .ref q9, .ref q19, .ref q31, .ref q45, .ref q61, .ref q79, .ref q99, .ref q121, .null, .null, .null, .int 0, .null, .int 0, .int 0, .int 0, .int 0, .int 0, .int 0, .int 0, .int 0, .int 0, .int 0]))) := ⟨_, rfl⟩
  have hP : hv_P D classes s0.heap.size w134 H := by rw [ew134]; exact hP
  have h135 : w134 q1 = some (.inl (ca 2, 640, .inl (fun _ => 0))) := by rw [ew134]; exact hv_up_k h125 (Ne.symm ne_x_q1)
  have h136 : w134 q9 = some (.inl (ca 0, 640, .inl (fun _ => 0))) := by rw [ew134]; exact hv_up_k h126 (Ne.symm ne_x_q9)
  have h137 : w134 q19 = some (.inl (ca 0, 640, .inl (fun _ => 0))) := by rw [ew134]; exact hv_up_k h127 (Ne.symm ne_x_q19)
  have h138 : w134 q31 = some (.inl (ca 0, 640, .inl (fun _ => 0))) := by rw [ew134]; exact hv_up_k h128 (Ne.symm ne_x_q31)
  have h139 : w134 q45 = some (.inl (ca 0, 640, .inl (fun _ => 0))) := by rw [ew134]; exact hv_up_k h129 (Ne.symm ne_x_q45)
  have h140 : w134 q61 = some (.inl (ca 0, 2560, .inl (fun _ => 0))) := by rw [ew134]; exact hv_up_k h130 (Ne.symm ne_x_q61)
  have h141 : w134 q79 = some (.inl (ca 0, 640, .inl (fun _ => 0))) := by rw [ew134]; exact hv_up_k h131 (Ne.symm ne_x_q79)
  have h142 : w134 q99 = some (.inl (ca 0, 3840, .inl (fun _ => 0))) := by rw [ew134]; exact hv_up_k h132 (Ne.symm ne_x_q99)
  have h143 : w134 q121 = some (.inl (ca 0, 3840, .inl (fun _ => 0))) := by rw [ew134]; exact hv_up_k h133 (Ne.symm ne_x_q121)
  have h144 : w134 x = some (.inr (7, [.int 0, .ref q1, .ref q9, .ref q19, .ref q31, .ref q45, .ref q61, .ref q79, .ref q99, .ref q121, .null, .null, .null, .int 0, .null, .int 0, .int 0, .int 0, .int 0, .int 0, .int 0, .int 0, .int 0, .int 0, .int 0])) := by rw [ew134]; exact hv_up_s
  have hk18 : gkx x w w134 := by rw [ew134]; exact hk17.put
  refine lv_aload_n hx hb d_Model_init_85 rfl (lv_at hl 0 rfl) ?_
  refine lv_sipush (v := 3840) hx hb d_Model_init_86 (by decide) ?_
  refine hv_newa (a0 := (3840, .inr (.inl (fun _ => 0)))) hx hb (show (Cond.arrayClass (newarray.typeOf .long)).before _ s = true from hts _ ka_long) rfl hK hP hS hZ.2.1 3 rfl (N' := 3840) (fun _ => rfl) (nI_pos (n := 3840) (by omega)) (nI_clamp (n := 3840) (by omega)) (gk_bytes (Nat.le_trans (Nat.mul_le_mul_left _ (by decide : _ ≤ 8)) (by omega))) (Nat.le_of_ble_eq_true rfl) (by show _ + _ ≤ 29603; omega) d_Model_init_89 (fun q145 H hq146 hP hS => ?_)
  have ne_x_q145 : x ≠ q145 := hv_ne_f hq146 h144
  have ne_q1_q145 : q1 ≠ q145 := hv_ne_f hq146 h135
  have ne_q9_q145 : q9 ≠ q145 := hv_ne_f hq146 h136
  have ne_q19_q145 : q19 ≠ q145 := hv_ne_f hq146 h137
  have ne_q31_q145 : q31 ≠ q145 := hv_ne_f hq146 h138
  have ne_q45_q145 : q45 ≠ q145 := hv_ne_f hq146 h139
  have ne_q61_q145 : q61 ≠ q145 := hv_ne_f hq146 h140
  have ne_q79_q145 : q79 ≠ q145 := hv_ne_f hq146 h141
  have ne_q99_q145 : q99 ≠ q145 := hv_ne_f hq146 h142
  have ne_q121_q145 : q121 ≠ q145 := hv_ne_f hq146 h143
  have hf_q145 : w q145 = none := hk18.fr hq146 (Ne.symm ne_x_q145)
  obtain ⟨w147, ew147⟩ : ∃ z9 : hv_W, z9 = va_up w134 q145 (some (.inl (ca 3, 3840, .inr (.inl (fun _ => 0))))) := ⟨_, rfl⟩
  have hP : hv_P D classes s0.heap.size w147 H := by rw [ew147]; exact hP
  have h148 : w147 x = some (.inr (7, [.int 0, .ref q1, .ref q9, .ref q19, .ref q31, .ref q45, .ref q61, .ref q79, .ref q99, .ref q121, .null, .null, .null, .int 0, .null, .int 0, .int 0, .int 0, .int 0, .int 0, .int 0, .int 0, .int 0, .int 0, .int 0])) := by rw [ew147]; exact hv_up_f hq146 h144
  have h149 : w147 q1 = some (.inl (ca 2, 640, .inl (fun _ => 0))) := by rw [ew147]; exact hv_up_f hq146 h135
  have h150 : w147 q9 = some (.inl (ca 0, 640, .inl (fun _ => 0))) := by rw [ew147]; exact hv_up_f hq146 h136
  have h151 : w147 q19 = some (.inl (ca 0, 640, .inl (fun _ => 0))) := by rw [ew147]; exact hv_up_f hq146 h137
  have h152 : w147 q31 = some (.inl (ca 0, 640, .inl (fun _ => 0))) := by rw [ew147]; exact hv_up_f hq146 h138
  have h153 : w147 q45 = some (.inl (ca 0, 640, .inl (fun _ => 0))) := by rw [ew147]; exact hv_up_f hq146 h139
  have h154 : w147 q61 = some (.inl (ca 0, 2560, .inl (fun _ => 0))) := by rw [ew147]; exact hv_up_f hq146 h140
  have h155 : w147 q79 = some (.inl (ca 0, 640, .inl (fun _ => 0))) := by rw [ew147]; exact hv_up_f hq146 h141
  have h156 : w147 q99 = some (.inl (ca 0, 3840, .inl (fun _ => 0))) := by rw [ew147]; exact hv_up_f hq146 h142
  have h157 : w147 q121 = some (.inl (ca 0, 3840, .inl (fun _ => 0))) := by rw [ew147]; exact hv_up_f hq146 h143
  have h158 : w147 q145 = some (.inl (ca 3, 3840, .inr (.inl (fun _ => 0)))) := by rw [ew147]; exact hv_up_s
  have hk19 : gkx x w w147 := by rw [ew147]; exact hk18.new hq146
  refine W.widen (k := 10) (n := 17920) (by omega) (by omega) ?_
  show W _ _ _ _ _ _ _ _ _ _ _ _ _ _ _ (F0 m 91 ls [.ref q145, .ref x])
  refine hv_putF (D := D) (ci := 7) (v := .ref q145) (ty := .array .long) (C := R_Model) (T := F_Model) (N := 25) hx hb hts i_Model t_Model t_Model_ok n_Model hown hK hP hS h148 rfl 10 (by decide) (hts _ k_Model_38) (fun _ h9 => h9) rfl hname rfl (by decide +kernel) rfl rfl (Nat.le_of_ble_eq_true rfl) d_Model_init_91 (fun H locs hP hS => ?_)
  obtain ⟨w159, ew159⟩ : ∃ z9 : hv_W, z9 = va_up w147 x (some (.inr (7, [.int 0, .ref q1, .ref q9, .ref q19, .ref q31, .ref q45, .ref q61, .ref q79, .ref q99, .ref q121, .ref q145, .null, .null, .int 0, .null, .int 0, .int 0, .int 0, .int 0, .int 0, .int 0, .int 0, .int 0, .int 0, .int 0]))) := ⟨_, rfl⟩
  have hP : hv_P D classes s0.heap.size w159 H := by rw [ew159]; exact hP
  have h160 : w159 q1 = some (.inl (ca 2, 640, .inl (fun _ => 0))) := by rw [ew159]; exact hv_up_k h149 (Ne.symm ne_x_q1)
  have h161 : w159 q9 = some (.inl (ca 0, 640, .inl (fun _ => 0))) := by rw [ew159]; exact hv_up_k h150 (Ne.symm ne_x_q9)
  have h162 : w159 q19 = some (.inl (ca 0, 640, .inl (fun _ => 0))) := by rw [ew159]; exact hv_up_k h151 (Ne.symm ne_x_q19)
  have h163 : w159 q31 = some (.inl (ca 0, 640, .inl (fun _ => 0))) := by rw [ew159]; exact hv_up_k h152 (Ne.symm ne_x_q31)
  have h164 : w159 q45 = some (.inl (ca 0, 640, .inl (fun _ => 0))) := by rw [ew159]; exact hv_up_k h153 (Ne.symm ne_x_q45)
  have h165 : w159 q61 = some (.inl (ca 0, 2560, .inl (fun _ => 0))) := by rw [ew159]; exact hv_up_k h154 (Ne.symm ne_x_q61)
  have h166 : w159 q79 = some (.inl (ca 0, 640, .inl (fun _ => 0))) := by rw [ew159]; exact hv_up_k h155 (Ne.symm ne_x_q79)
  have h167 : w159 q99 = some (.inl (ca 0, 3840, .inl (fun _ => 0))) := by rw [ew159]; exact hv_up_k h156 (Ne.symm ne_x_q99)
  have h168 : w159 q121 = some (.inl (ca 0, 3840, .inl (fun _ => 0))) := by rw [ew159]; exact hv_up_k h157 (Ne.symm ne_x_q121)
  have h169 : w159 q145 = some (.inl (ca 3, 3840, .inr (.inl (fun _ => 0)))) := by rw [ew159]; exact hv_up_k h158 (Ne.symm ne_x_q145)
  have h170 : w159 x = some (.inr (7, [.int 0, .ref q1, .ref q9, .ref q19, .ref q31, .ref q45, .ref q61, .ref q79, .ref q99, .ref q121, .ref q145, .null, .null, .int 0, .null, .int 0, .int 0, .int 0, .int 0, .int 0, .int 0, .int 0, .int 0, .int 0, .int 0])) := by rw [ew159]; exact hv_up_s
  have hk20 : gkx x w w159 := by rw [ew159]; exact hk19.put
  refine lv_aload_n hx hb d_Model_init_94 rfl (lv_at hl 0 rfl) ?_
  refine lv_sipush (v := 11520) hx hb d_Model_init_95 (by decide) ?_
  refine hv_newa (a0 := (11520, .inr (.inl (fun _ => 0)))) hx hb (show (Cond.arrayClass (newarray.typeOf .long)).before _ s = true from hts _ ka_long) rfl hK hP hS hZ.2.1 3 rfl (N' := 11520) (fun _ => rfl) (nI_pos (n := 11520) (by omega)) (nI_clamp (n := 11520) (by omega)) (gk_bytes (Nat.le_trans (Nat.mul_le_mul_left _ (by decide : _ ≤ 8)) (by omega))) (Nat.le_of_ble_eq_true rfl) (by show _ + _ ≤ 29603; omega) d_Model_init_98 (fun q171 H hq172 hP hS => ?_)
  have ne_x_q171 : x ≠ q171 := hv_ne_f hq172 h170
  have ne_q1_q171 : q1 ≠ q171 := hv_ne_f hq172 h160
  have ne_q9_q171 : q9 ≠ q171 := hv_ne_f hq172 h161
  have ne_q19_q171 : q19 ≠ q171 := hv_ne_f hq172 h162
  have ne_q31_q171 : q31 ≠ q171 := hv_ne_f hq172 h163
  have ne_q45_q171 : q45 ≠ q171 := hv_ne_f hq172 h164
  have ne_q61_q171 : q61 ≠ q171 := hv_ne_f hq172 h165
  have ne_q79_q171 : q79 ≠ q171 := hv_ne_f hq172 h166
  have ne_q99_q171 : q99 ≠ q171 := hv_ne_f hq172 h167
  have ne_q121_q171 : q121 ≠ q171 := hv_ne_f hq172 h168
  have ne_q145_q171 : q145 ≠ q171 := hv_ne_f hq172 h169
  have hf_q171 : w q171 = none := hk20.fr hq172 (Ne.symm ne_x_q171)
  obtain ⟨w173, ew173⟩ : ∃ z9 : hv_W, z9 = va_up w159 q171 (some (.inl (ca 3, 11520, .inr (.inl (fun _ => 0))))) := ⟨_, rfl⟩
  have hP : hv_P D classes s0.heap.size w173 H := by rw [ew173]; exact hP
  have h174 : w173 x = some (.inr (7, [.int 0, .ref q1, .ref q9, .ref q19, .ref q31, .ref q45, .ref q61, .ref q79, .ref q99, .ref q121, .ref q145, .null, .null, .int 0, .null, .int 0, .int 0, .int 0, .int 0, .int 0, .int 0, .int 0, .int 0, .int 0, .int 0])) := by rw [ew173]; exact hv_up_f hq172 h170
  have h175 : w173 q1 = some (.inl (ca 2, 640, .inl (fun _ => 0))) := by rw [ew173]; exact hv_up_f hq172 h160
  have h176 : w173 q9 = some (.inl (ca 0, 640, .inl (fun _ => 0))) := by rw [ew173]; exact hv_up_f hq172 h161
  have h177 : w173 q19 = some (.inl (ca 0, 640, .inl (fun _ => 0))) := by rw [ew173]; exact hv_up_f hq172 h162
  have h178 : w173 q31 = some (.inl (ca 0, 640, .inl (fun _ => 0))) := by rw [ew173]; exact hv_up_f hq172 h163
  have h179 : w173 q45 = some (.inl (ca 0, 640, .inl (fun _ => 0))) := by rw [ew173]; exact hv_up_f hq172 h164
  have h180 : w173 q61 = some (.inl (ca 0, 2560, .inl (fun _ => 0))) := by rw [ew173]; exact hv_up_f hq172 h165
  have h181 : w173 q79 = some (.inl (ca 0, 640, .inl (fun _ => 0))) := by rw [ew173]; exact hv_up_f hq172 h166
  have h182 : w173 q99 = some (.inl (ca 0, 3840, .inl (fun _ => 0))) := by rw [ew173]; exact hv_up_f hq172 h167
  have h183 : w173 q121 = some (.inl (ca 0, 3840, .inl (fun _ => 0))) := by rw [ew173]; exact hv_up_f hq172 h168
  have h184 : w173 q145 = some (.inl (ca 3, 3840, .inr (.inl (fun _ => 0)))) := by rw [ew173]; exact hv_up_f hq172 h169
  have h185 : w173 q171 = some (.inl (ca 3, 11520, .inr (.inl (fun _ => 0)))) := by rw [ew173]; exact hv_up_s
  have hk21 : gkx x w w173 := by rw [ew173]; exact hk20.new hq172
  refine W.widen (k := 11) (n := 29440) (by omega) (by omega) ?_
  show W _ _ _ _ _ _ _ _ _ _ _ _ _ _ _ (F0 m 100 ls [.ref q171, .ref x])
  refine hv_putF (D := D) (ci := 7) (v := .ref q171) (ty := .array .long) (C := R_Model) (T := F_Model) (N := 25) hx hb hts i_Model t_Model t_Model_ok n_Model hown hK hP hS h174 rfl 11 (by decide) (hts _ k_Model_42) (fun _ h9 => h9) rfl hname rfl (by decide +kernel) rfl rfl (Nat.le_of_ble_eq_true rfl) d_Model_init_100 (fun H locs hP hS => ?_)
  obtain ⟨w186, ew186⟩ : ∃ z9 : hv_W, z9 = va_up w173 x (some (.inr (7, [.int 0, .ref q1, .ref q9, .ref q19, .ref q31, .ref q45, .ref q61, .ref q79, .ref q99, .ref q121, .ref q145, .ref q171, .null, .int 0, .null, .int 0, .int 0, .int 0, .int 0, .int 0, .int 0, .int 0, .int 0, .int 0, .int 0]))) := ⟨_, rfl⟩
  have hP : hv_P D classes s0.heap.size w186 H := by rw [ew186]; exact hP
  have h187 : w186 q1 = some (.inl (ca 2, 640, .inl (fun _ => 0))) := by rw [ew186]; exact hv_up_k h175 (Ne.symm ne_x_q1)
  have h188 : w186 q9 = some (.inl (ca 0, 640, .inl (fun _ => 0))) := by rw [ew186]; exact hv_up_k h176 (Ne.symm ne_x_q9)
  have h189 : w186 q19 = some (.inl (ca 0, 640, .inl (fun _ => 0))) := by rw [ew186]; exact hv_up_k h177 (Ne.symm ne_x_q19)
  have h190 : w186 q31 = some (.inl (ca 0, 640, .inl (fun _ => 0))) := by rw [ew186]; exact hv_up_k h178 (Ne.symm ne_x_q31)
  have h191 : w186 q45 = some (.inl (ca 0, 640, .inl (fun _ => 0))) := by rw [ew186]; exact hv_up_k h179 (Ne.symm ne_x_q45)
  have h192 : w186 q61 = some (.inl (ca 0, 2560, .inl (fun _ => 0))) := by rw [ew186]; exact hv_up_k h180 (Ne.symm ne_x_q61)
  have h193 : w186 q79 = some (.inl (ca 0, 640, .inl (fun _ => 0))) := by rw [ew186]; exact hv_up_k h181 (Ne.symm ne_x_q79)
  have h194 : w186 q99 = some (.inl (ca 0, 3840, .inl (fun _ => 0))) := by rw [ew186]; exact hv_up_k h182 (Ne.symm ne_x_q99)
  have h195 : w186 q121 = some (.inl (ca 0, 3840, .inl (fun _ => 0))) := by rw [ew186]; exact hv_up_k h183 (Ne.symm ne_x_q121)
  have h196 : w186 q145 = some (.inl (ca 3, 3840, .inr (.inl (fun _ => 0)))) := by rw [ew186]; exact hv_up_k h184 (Ne.symm ne_x_q145)
  have h197 : w186 q171 = some (.inl (ca 3, 11520, .inr (.inl (fun _ => 0)))) := by rw [ew186]; exact hv_up_k h185 (Ne.symm ne_x_q171)
  have h198 : w186 x = some (.inr (7, [.int 0, .ref q1, .ref q9, .ref q19, .ref q31, .ref q45, .ref q61, .ref q79, .ref q99, .ref q121, .ref q145, .ref q171, .null, .int 0, .null, .int 0, .int 0, .int 0, .int 0, .int 0, .int 0, .int 0, .int 0, .int 0, .int 0])) := by rw [ew186]; exact hv_up_s
  have hk22 : gkx x w w186 := by rw [ew186]; exact hk21.put
  refine lv_aload_n hx hb d_Model_init_103 rfl (lv_at hl 0 rfl) ?_
  refine lv_sipush (v := 160) hx hb d_Model_init_104 (by decide) ?_
  refine hv_newa (a0 := (160, .inl (fun _ => 0))) hx hb (show (Cond.arrayClass (newarray.typeOf .boolean)).before _ s = true from hts _ ka_boolean) rfl hK hP hS hZ.2.1 2 rfl (N' := 160) (fun _ => rfl) (nI_pos (n := 160) (by omega)) (nI_clamp (n := 160) (by omega)) (gk_bytes (Nat.le_trans (Nat.mul_le_mul_left _ (by decide : _ ≤ 8)) (by omega))) (Nat.le_of_ble_eq_true rfl) (by show _ + _ ≤ 29603; omega) d_Model_init_107 (fun q199 H hq200 hP hS => ?_)
  have ne_x_q199 : x ≠ q199 := hv_ne_f hq200 h198
  have ne_q1_q199 : q1 ≠ q199 := hv_ne_f hq200 h187
  have ne_q9_q199 : q9 ≠ q199 := hv_ne_f hq200 h188
  have ne_q19_q199 : q19 ≠ q199 := hv_ne_f hq200 h189
  have ne_q31_q199 : q31 ≠ q199 := hv_ne_f hq200 h190
  have ne_q45_q199 : q45 ≠ q199 := hv_ne_f hq200 h191
  have ne_q61_q199 : q61 ≠ q199 := hv_ne_f hq200 h192
  have ne_q79_q199 : q79 ≠ q199 := hv_ne_f hq200 h193
  have ne_q99_q199 : q99 ≠ q199 := hv_ne_f hq200 h194
  have ne_q121_q199 : q121 ≠ q199 := hv_ne_f hq200 h195
  have ne_q145_q199 : q145 ≠ q199 := hv_ne_f hq200 h196
  have ne_q171_q199 : q171 ≠ q199 := hv_ne_f hq200 h197
  have hf_q199 : w q199 = none := hk22.fr hq200 (Ne.symm ne_x_q199)
  obtain ⟨w201, ew201⟩ : ∃ z9 : hv_W, z9 = va_up w186 q199 (some (.inl (ca 2, 160, .inl (fun _ => 0)))) := ⟨_, rfl⟩
  have hP : hv_P D classes s0.heap.size w201 H := by rw [ew201]; exact hP
  have h202 : w201 x = some (.inr (7, [.int 0, .ref q1, .ref q9, .ref q19, .ref q31, .ref q45, .ref q61, .ref q79, .ref q99, .ref q121, .ref q145, .ref q171, .null, .int 0, .null, .int 0, .int 0, .int 0, .int 0, .int 0, .int 0, .int 0, .int 0, .int 0, .int 0])) := by rw [ew201]; exact hv_up_f hq200 h198
  have h203 : w201 q1 = some (.inl (ca 2, 640, .inl (fun _ => 0))) := by rw [ew201]; exact hv_up_f hq200 h187
  have h204 : w201 q9 = some (.inl (ca 0, 640, .inl (fun _ => 0))) := by rw [ew201]; exact hv_up_f hq200 h188
  have h205 : w201 q19 = some (.inl (ca 0, 640, .inl (fun _ => 0))) := by rw [ew201]; exact hv_up_f hq200 h189
  have h206 : w201 q31 = some (.inl (ca 0, 640, .inl (fun _ => 0))) := by rw [ew201]; exact hv_up_f hq200 h190
  have h207 : w201 q45 = some (.inl (ca 0, 640, .inl (fun _ => 0))) := by rw [ew201]; exact hv_up_f hq200 h191
  have h208 : w201 q61 = some (.inl (ca 0, 2560, .inl (fun _ => 0))) := by rw [ew201]; exact hv_up_f hq200 h192
  have h209 : w201 q79 = some (.inl (ca 0, 640, .inl (fun _ => 0))) := by rw [ew201]; exact hv_up_f hq200 h193
  have h210 : w201 q99 = some (.inl (ca 0, 3840, .inl (fun _ => 0))) := by rw [ew201]; exact hv_up_f hq200 h194
  have h211 : w201 q121 = some (.inl (ca 0, 3840, .inl (fun _ => 0))) := by rw [ew201]; exact hv_up_f hq200 h195
  have h212 : w201 q145 = some (.inl (ca 3, 3840, .inr (.inl (fun _ => 0)))) := by rw [ew201]; exact hv_up_f hq200 h196
  have h213 : w201 q171 = some (.inl (ca 3, 11520, .inr (.inl (fun _ => 0)))) := by rw [ew201]; exact hv_up_f hq200 h197
  have h214 : w201 q199 = some (.inl (ca 2, 160, .inl (fun _ => 0))) := by rw [ew201]; exact hv_up_s
  have hk23 : gkx x w w201 := by rw [ew201]; exact hk22.new hq200
  refine W.widen (k := 12) (n := 29600) (by omega) (by omega) ?_
  show W _ _ _ _ _ _ _ _ _ _ _ _ _ _ _ (F0 m 109 ls [.ref q199, .ref x])
  refine hv_putF (D := D) (ci := 7) (v := .ref q199) (ty := .array .boolean) (C := R_Model) (T := F_Model) (N := 25) hx hb hts i_Model t_Model t_Model_ok n_Model hown hK hP hS h202 rfl 12 (by decide) (hts _ k_Model_45) (fun _ h9 => h9) rfl hname rfl (by decide +kernel) rfl rfl (Nat.le_of_ble_eq_true rfl) d_Model_init_109 (fun H locs hP hS => ?_)
  obtain ⟨w215, ew215⟩ : ∃ z9 : hv_W, z9 = va_up w201 x (some (.inr (7, [.int 0, .ref q1, .ref q9, .ref q19, .ref q31, .ref q45, .ref q61, .ref q79, .ref q99, .ref q121, .ref q145, .ref q171, .ref q199, .int 0, .null, .int 0, .int 0, .int 0, .int 0, .int 0, .int 0, .int 0, .int 0, .int 0, .int 0]))) := ⟨_, rfl⟩
  have hP : hv_P D classes s0.heap.size w215 H := by rw [ew215]; exact hP
  have h216 : w215 q1 = some (.inl (ca 2, 640, .inl (fun _ => 0))) := by rw [ew215]; exact hv_up_k h203 (Ne.symm ne_x_q1)
  have h217 : w215 q9 = some (.inl (ca 0, 640, .inl (fun _ => 0))) := by rw [ew215]; exact hv_up_k h204 (Ne.symm ne_x_q9)
  have h218 : w215 q19 = some (.inl (ca 0, 640, .inl (fun _ => 0))) := by rw [ew215]; exact hv_up_k h205 (Ne.symm ne_x_q19)
  have h219 : w215 q31 = some (.inl (ca 0, 640, .inl (fun _ => 0))) := by rw [ew215]; exact hv_up_k h206 (Ne.symm ne_x_q31)
  have h220 : w215 q45 = some (.inl (ca 0, 640, .inl (fun _ => 0))) := by rw [ew215]; exact hv_up_k h207 (Ne.symm ne_x_q45)
  have h221 : w215 q61 = some (.inl (ca 0, 2560, .inl (fun _ => 0))) := by rw [ew215]; exact hv_up_k h208 (Ne.symm ne_x_q61)
  have h222 : w215 q79 = some (.inl (ca 0, 640, .inl (fun _ => 0))) := by rw [ew215]; exact hv_up_k h209 (Ne.symm ne_x_q79)
  have h223 : w215 q99 = some (.inl (ca 0, 3840, .inl (fun _ => 0))) := by rw [ew215]; exact hv_up_k h210 (Ne.symm ne_x_q99)
  have h224 : w215 q121 = some (.inl (ca 0, 3840, .inl (fun _ => 0))) := by rw [ew215]; exact hv_up_k h211 (Ne.symm ne_x_q121)
  have h225 : w215 q145 = some (.inl (ca 3, 3840, .inr (.inl (fun _ => 0)))) := by rw [ew215]; exact hv_up_k h212 (Ne.symm ne_x_q145)
  have h226 : w215 q171 = some (.inl (ca 3, 11520, .inr (.inl (fun _ => 0)))) := by rw [ew215]; exact hv_up_k h213 (Ne.symm ne_x_q171)
  have h227 : w215 q199 = some (.inl (ca 2, 160, .inl (fun _ => 0))) := by rw [ew215]; exact hv_up_k h214 (Ne.symm ne_x_q199)
  have h228 : w215 x = some (.inr (7, [.int 0, .ref q1, .ref q9, .ref q19, .ref q31, .ref q45, .ref q61, .ref q79, .ref q99, .ref q121, .ref q145, .ref q171, .ref q199, .int 0, .null, .int 0, .int 0, .int 0, .int 0, .int 0, .int 0, .int 0, .int 0, .int 0, .int 0])) := by rw [ew215]; exact hv_up_s
  have hk24 : gkx x w w215 := by rw [ew215]; exact hk23.put
  refine lv_aload_n hx hb d_Model_init_112 rfl (lv_at hl 0 rfl) ?_
  refine lv_iconst (v := 3) hx hb d_Model_init_113 (by decide) ?_
  refine hv_newa (a0 := (3, .inr (.inl (fun _ => 0)))) hx hb (show (Cond.arrayClass (newarray.typeOf .long)).before _ s = true from hts _ ka_long) rfl hK hP hS hZ.2.1 3 rfl (N' := 3) (fun _ => rfl) (nI_pos (n := 3) (by omega)) (nI_clamp (n := 3) (by omega)) (gk_bytes (Nat.le_trans (Nat.mul_le_mul_left _ (by decide : _ ≤ 8)) (by omega))) (Nat.le_of_ble_eq_true rfl) (by show _ + _ ≤ 29603; omega) d_Model_init_114 (fun q229 H hq230 hP hS => ?_)
  have ne_x_q229 : x ≠ q229 := hv_ne_f hq230 h228
  have ne_q1_q229 : q1 ≠ q229 := hv_ne_f hq230 h216
  have ne_q9_q229 : q9 ≠ q229 := hv_ne_f hq230 h217
  have ne_q19_q229 : q19 ≠ q229 := hv_ne_f hq230 h218
  have ne_q31_q229 : q31 ≠ q229 := hv_ne_f hq230 h219
  have ne_q45_q229 : q45 ≠ q229 := hv_ne_f hq230 h220
  have ne_q61_q229 : q61 ≠ q229 := hv_ne_f hq230 h221
  have ne_q79_q229 : q79 ≠ q229 := hv_ne_f hq230 h222
  have ne_q99_q229 : q99 ≠ q229 := hv_ne_f hq230 h223
  have ne_q121_q229 : q121 ≠ q229 := hv_ne_f hq230 h224
  have ne_q145_q229 : q145 ≠ q229 := hv_ne_f hq230 h225
  have ne_q171_q229 : q171 ≠ q229 := hv_ne_f hq230 h226
  have ne_q199_q229 : q199 ≠ q229 := hv_ne_f hq230 h227
  have hf_q229 : w q229 = none := hk24.fr hq230 (Ne.symm ne_x_q229)
  obtain ⟨w231, ew231⟩ : ∃ z9 : hv_W, z9 = va_up w215 q229 (some (.inl (ca 3, 3, .inr (.inl (fun _ => 0))))) := ⟨_, rfl⟩
  have hP : hv_P D classes s0.heap.size w231 H := by rw [ew231]; exact hP
  have h232 : w231 x = some (.inr (7, [.int 0, .ref q1, .ref q9, .ref q19, .ref q31, .ref q45, .ref q61, .ref q79, .ref q99, .ref q121, .ref q145, .ref q171, .ref q199, .int 0, .null, .int 0, .int 0, .int 0, .int 0, .int 0, .int 0, .int 0, .int 0, .int 0, .int 0])) := by rw [ew231]; exact hv_up_f hq230 h228
  have h233 : w231 q1 = some (.inl (ca 2, 640, .inl (fun _ => 0))) := by rw [ew231]; exact hv_up_f hq230 h216
  have h234 : w231 q9 = some (.inl (ca 0, 640, .inl (fun _ => 0))) := by rw [ew231]; exact hv_up_f hq230 h217
  have h235 : w231 q19 = some (.inl (ca 0, 640, .inl (fun _ => 0))) := by rw [ew231]; exact hv_up_f hq230 h218
  have h236 : w231 q31 = some (.inl (ca 0, 640, .inl (fun _ => 0))) := by rw [ew231]; exact hv_up_f hq230 h219
  have h237 : w231 q45 = some (.inl (ca 0, 640, .inl (fun _ => 0))) := by rw [ew231]; exact hv_up_f hq230 h220
  have h238 : w231 q61 = some (.inl (ca 0, 2560, .inl (fun _ => 0))) := by rw [ew231]; exact hv_up_f hq230 h221
  have h239 : w231 q79 = some (.inl (ca 0, 640, .inl (fun _ => 0))) := by rw [ew231]; exact hv_up_f hq230 h222
  have h240 : w231 q99 = some (.inl (ca 0, 3840, .inl (fun _ => 0))) := by rw [ew231]; exact hv_up_f hq230 h223
  have h241 : w231 q121 = some (.inl (ca 0, 3840, .inl (fun _ => 0))) := by rw [ew231]; exact hv_up_f hq230 h224
  have h242 : w231 q145 = some (.inl (ca 3, 3840, .inr (.inl (fun _ => 0)))) := by rw [ew231]; exact hv_up_f hq230 h225
  have h243 : w231 q171 = some (.inl (ca 3, 11520, .inr (.inl (fun _ => 0)))) := by rw [ew231]; exact hv_up_f hq230 h226
  have h244 : w231 q199 = some (.inl (ca 2, 160, .inl (fun _ => 0))) := by rw [ew231]; exact hv_up_f hq230 h227
  have h245 : w231 q229 = some (.inl (ca 3, 3, .inr (.inl (fun _ => 0)))) := by rw [ew231]; exact hv_up_s
  have hk25 : gkx x w w231 := by rw [ew231]; exact hk24.new hq230
  refine W.widen (k := 13) (n := 29603) (by omega) (by omega) ?_
  show W _ _ _ _ _ _ _ _ _ _ _ _ _ _ _ (F0 m 116 ls [.ref q229, .ref x])
  refine hv_putF (D := D) (ci := 7) (v := .ref q229) (ty := .array .long) (C := R_Model) (T := F_Model) (N := 25) hx hb hts i_Model t_Model t_Model_ok n_Model hown hK hP hS h232 rfl 14 (by decide) (hts _ k_Model_48) (fun _ h9 => h9) rfl hname rfl (by decide +kernel) rfl rfl (Nat.le_of_ble_eq_true rfl) d_Model_init_116 (fun H locs hP hS => ?_)
  obtain ⟨w246, ew246⟩ : ∃ z9 : hv_W, z9 = va_up w231 x (some (.inr (7, [.int 0, .ref q1, .ref q9, .ref q19, .ref q31, .ref q45, .ref q61, .ref q79, .ref q99, .ref q121, .ref q145, .ref q171, .ref q199, .int 0, .ref q229, .int 0, .int 0, .int 0, .int 0, .int 0, .int 0, .int 0, .int 0, .int 0, .int 0]))) := ⟨_, rfl⟩
  have hP : hv_P D classes s0.heap.size w246 H := by rw [ew246]; exact hP
  have h247 : w246 q1 = some (.inl (ca 2, 640, .inl (fun _ => 0))) := by rw [ew246]; exact hv_up_k h233 (Ne.symm ne_x_q1)
  have h248 : w246 q9 = some (.inl (ca 0, 640, .inl (fun _ => 0))) := by rw [ew246]; exact hv_up_k h234 (Ne.symm ne_x_q9)
  have h249 : w246 q19 = some (.inl (ca 0, 640, .inl (fun _ => 0))) := by rw [ew246]; exact hv_up_k h235 (Ne.symm ne_x_q19)
  have h250 : w246 q31 = some (.inl (ca 0, 640, .inl (fun _ => 0))) := by rw [ew246]; exact hv_up_k h236 (Ne.symm ne_x_q31)
  have h251 : w246 q45 = some (.inl (ca 0, 640, .inl (fun _ => 0))) := by rw [ew246]; exact hv_up_k h237 (Ne.symm ne_x_q45)
  have h252 : w246 q61 = some (.inl (ca 0, 2560, .inl (fun _ => 0))) := by rw [ew246]; exact hv_up_k h238 (Ne.symm ne_x_q61)
  have h253 : w246 q79 = some (.inl (ca 0, 640, .inl (fun _ => 0))) := by rw [ew246]; exact hv_up_k h239 (Ne.symm ne_x_q79)
  have h254 : w246 q99 = some (.inl (ca 0, 3840, .inl (fun _ => 0))) := by rw [ew246]; exact hv_up_k h240 (Ne.symm ne_x_q99)
  have h255 : w246 q121 = some (.inl (ca 0, 3840, .inl (fun _ => 0))) := by rw [ew246]; exact hv_up_k h241 (Ne.symm ne_x_q121)
  have h256 : w246 q145 = some (.inl (ca 3, 3840, .inr (.inl (fun _ => 0)))) := by rw [ew246]; exact hv_up_k h242 (Ne.symm ne_x_q145)
  have h257 : w246 q171 = some (.inl (ca 3, 11520, .inr (.inl (fun _ => 0)))) := by rw [ew246]; exact hv_up_k h243 (Ne.symm ne_x_q171)
  have h258 : w246 q199 = some (.inl (ca 2, 160, .inl (fun _ => 0))) := by rw [ew246]; exact hv_up_k h244 (Ne.symm ne_x_q199)
  have h259 : w246 q229 = some (.inl (ca 3, 3, .inr (.inl (fun _ => 0)))) := by rw [ew246]; exact hv_up_k h245 (Ne.symm ne_x_q229)
  have h260 : w246 x = some (.inr (7, [.int 0, .ref q1, .ref q9, .ref q19, .ref q31, .ref q45, .ref q61, .ref q79, .ref q99, .ref q121, .ref q145, .ref q171, .ref q199, .int 0, .ref q229, .int 0, .int 0, .int 0, .int 0, .int 0, .int 0, .int 0, .int 0, .int 0, .int 0])) := by rw [ew246]; exact hv_up_s
  have hk26 : gkx x w w246 := by rw [ew246]; exact hk25.put
  have hd13 : [q229].Nodup := List.nodup_cons.mpr ⟨by simp, List.nodup_nil⟩
  have hd12 : [q199, q229].Nodup := List.nodup_cons.mpr ⟨by simp only [List.mem_singleton]; exact (ne_q199_q229), hd13⟩
  have hd11 : [q171, q199, q229].Nodup := List.nodup_cons.mpr ⟨by simp only [List.mem_cons, List.not_mem_nil, or_false, not_or]; exact ⟨(ne_q171_q199), (ne_q171_q229)⟩, hd12⟩
  have hd10 : [q145, q171, q199, q229].Nodup := List.nodup_cons.mpr ⟨by simp only [List.mem_cons, List.not_mem_nil, or_false, not_or]; exact ⟨(ne_q145_q171), (ne_q145_q199), (ne_q145_q229)⟩, hd11⟩
  have hd9 : [q121, q145, q171, q199, q229].Nodup := List.nodup_cons.mpr ⟨by simp only [List.mem_cons, List.not_mem_nil, or_false, not_or]; exact ⟨(ne_q121_q145), (ne_q121_q171), (ne_q121_q199), (ne_q121_q229)⟩, hd10⟩
  have hd8 : [q99, q121, q145, q171, q199, q229].Nodup := List.nodup_cons.mpr ⟨by simp only [List.mem_cons, List.not_mem_nil, or_false, not_or]; exact ⟨(ne_q99_q121), (ne_q99_q145), (ne_q99_q171), (ne_q99_q199), (ne_q99_q229)⟩, hd9⟩
  have hd7 : [q79, q99, q121, q145, q171, q199, q229].Nodup := List.nodup_cons.mpr ⟨by simp only [List.mem_cons, List.not_mem_nil, or_false, not_or]; exact ⟨(ne_q79_q99), (ne_q79_q121), (ne_q79_q145), (ne_q79_q171), (ne_q79_q199), (ne_q79_q229)⟩, hd8⟩
  have hd6 : [q61, q79, q99, q121, q145, q171, q199, q229].Nodup := List.nodup_cons.mpr ⟨by simp only [List.mem_cons, List.not_mem_nil, or_false, not_or]; exact ⟨(ne_q61_q79), (ne_q61_q99), (ne_q61_q121), (ne_q61_q145), (ne_q61_q171), (ne_q61_q199), (ne_q61_q229)⟩, hd7⟩
  have hd5 : [q45, q61, q79, q99, q121, q145, q171, q199, q229].Nodup := List.nodup_cons.mpr ⟨by simp only [List.mem_cons, List.not_mem_nil, or_false, not_or]; exact ⟨(ne_q45_q61), (ne_q45_q79), (ne_q45_q99), (ne_q45_q121), (ne_q45_q145), (ne_q45_q171), (ne_q45_q199), (ne_q45_q229)⟩, hd6⟩
  have hd4 : [q31, q45, q61, q79, q99, q121, q145, q171, q199, q229].Nodup := List.nodup_cons.mpr ⟨by simp only [List.mem_cons, List.not_mem_nil, or_false, not_or]; exact ⟨(ne_q31_q45), (ne_q31_q61), (ne_q31_q79), (ne_q31_q99), (ne_q31_q121), (ne_q31_q145), (ne_q31_q171), (ne_q31_q199), (ne_q31_q229)⟩, hd5⟩
  have hd3 : [q19, q31, q45, q61, q79, q99, q121, q145, q171, q199, q229].Nodup := List.nodup_cons.mpr ⟨by simp only [List.mem_cons, List.not_mem_nil, or_false, not_or]; exact ⟨(ne_q19_q31), (ne_q19_q45), (ne_q19_q61), (ne_q19_q79), (ne_q19_q99), (ne_q19_q121), (ne_q19_q145), (ne_q19_q171), (ne_q19_q199), (ne_q19_q229)⟩, hd4⟩
  have hd2 : [q9, q19, q31, q45, q61, q79, q99, q121, q145, q171, q199, q229].Nodup := List.nodup_cons.mpr ⟨by simp only [List.mem_cons, List.not_mem_nil, or_false, not_or]; exact ⟨(ne_q9_q19), (ne_q9_q31), (ne_q9_q45), (ne_q9_q61), (ne_q9_q79), (ne_q9_q99), (ne_q9_q121), (ne_q9_q145), (ne_q9_q171), (ne_q9_q199), (ne_q9_q229)⟩, hd3⟩
  have hd1 : [q1, q9, q19, q31, q45, q61, q79, q99, q121, q145, q171, q199, q229].Nodup := List.nodup_cons.mpr ⟨by simp only [List.mem_cons, List.not_mem_nil, or_false, not_or]; exact ⟨(ne_q1_q9), (ne_q1_q19), (ne_q1_q31), (ne_q1_q45), (ne_q1_q61), (ne_q1_q79), (ne_q1_q99), (ne_q1_q121), (ne_q1_q145), (ne_q1_q171), (ne_q1_q199), (ne_q1_q229)⟩, hd2⟩
  have hd0 : [x, q1, q9, q19, q31, q45, q61, q79, q99, q121, q145, q171, q199, q229].Nodup := List.nodup_cons.mpr ⟨by simp only [List.mem_cons, List.not_mem_nil, or_false, not_or]; exact ⟨(ne_x_q1), (ne_x_q9), (ne_x_q19), (ne_x_q31), (ne_x_q45), (ne_x_q61), (ne_x_q79), (ne_x_q99), (ne_x_q121), (ne_x_q145), (ne_x_q171), (ne_x_q199), (ne_x_q229)⟩, hd1⟩
  have hcc : ∀ i, i < 14 → w246 ((fun i => [x, q1, q9, q19, q31, q45, q61, q79, q99, q121, q145, q171, q199, q229].getD i 0) i) = (mcl ca (fun i => [x, q1, q9, q19, q31, q45, q61, q79, q99, q121, q145, q171, q199, q229].getD i 0) ((0, fun _ => 0, 0, fun _ => 0, 0, 0, 0, 0, 0, 0, 0, 0, 0, 0) : mA) ((fun _ => 0, fun _ => 0, fun _ => 0, fun _ => 0, fun _ => 0, fun _ => 0, fun _ => 0, fun _ => 0, fun _ => 0, fun _ => 0, fun _ => 0) : mB))[i]? := by
    intro i hi
    rcases (show i = 0 ∨ i = 1 ∨ i = 2 ∨ i = 3 ∨ i = 4 ∨ i = 5 ∨ i = 6 ∨ i = 7 ∨ i = 8 ∨ i = 9 ∨ i = 10 ∨ i = 11 ∨ i = 12 ∨ i = 13 by omega) with rfl | rfl | rfl | rfl | rfl | rfl | rfl | rfl | rfl | rfl | rfl | rfl | rfl | rfl
    · exact h260
    · exact h247
    · exact h248
    · exact h249
    · exact h250
    · exact h251
    · exact h252
    · exact h253
    · exact h254
    · exact h255
    · exact h256
    · exact h257
    · exact h258
    · exact h259
  have hnn : ∀ b, b ≠ x → w b ≠ none → ¬ mM (fun i => [x, q1, q9, q19, q31, q45, q61, q79, q99, q121, q145, q171, q199, q229].getD i 0) b := by
    rintro b hb hw ⟨i, hi, e⟩
    rcases (show i = 0 ∨ i = 1 ∨ i = 2 ∨ i = 3 ∨ i = 4 ∨ i = 5 ∨ i = 6 ∨ i = 7 ∨ i = 8 ∨ i = 9 ∨ i = 10 ∨ i = 11 ∨ i = 12 ∨ i = 13 by omega) with rfl | rfl | rfl | rfl | rfl | rfl | rfl | rfl | rfl | rfl | rfl | rfl | rfl | rfl
    · exact hb e
    · exact hw (by rw [e]; exact hf_q1)
    · exact hw (by rw [e]; exact hf_q9)
    · exact hw (by rw [e]; exact hf_q19)
    · exact hw (by rw [e]; exact hf_q31)
    · exact hw (by rw [e]; exact hf_q45)
    · exact hw (by rw [e]; exact hf_q61)
    · exact hw (by rw [e]; exact hf_q79)
    · exact hw (by rw [e]; exact hf_q99)
    · exact hw (by rw [e]; exact hf_q121)
    · exact hw (by rw [e]; exact hf_q145)
    · exact hw (by rw [e]; exact hf_q171)
    · exact hw (by rw [e]; exact hf_q199)
    · exact hw (by rw [e]; exact hf_q229)
  exact hv_vret hQ hx hb hr hZ hS hP hlocks d_Model_init_119 (⟨rfl, (fun i => [x, q1, q9, q19, q31, q45, q61, q79, q99, q121, q145, q171, q199, q229].getD i 0), rfl, ⟨((0, fun _ => 0, 0, fun _ => 0, 0, 0, 0, 0, 0, 0, 0, 0, 0, 0) : mA), ((fun _ => 0, fun _ => 0, fun _ => 0, fun _ => 0, fun _ => 0, fun _ => 0, fun _ => 0, fun _ => 0, fun _ => 0, fun _ => 0, fun _ => 0) : mB), ⟨⟨gL_inj hd0, hcc⟩, fun _ _ => rfl⟩, ⟨⟨fun _ _ => rfl, fun z => absurd rfl z, fun z => absurd rfl z, fun _ _ => rfl, fun _ _ => Or.inl rfl⟩, ⟨rfl, rfl, rfl, rfl, rfl⟩, ⟨rfl, rfl, rfl, rfl, rfl⟩, fun _ _ => rfl, rfl, fun _ h9 => absurd h9 (Nat.not_lt_zero _), fun _ _ _ hz => absurd rfl hz⟩, rfl⟩, hk26, hnn⟩)

