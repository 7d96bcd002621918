abbrev rm_Model_isSame : Room := { frames := 0, cells := 0, slots := 0, locals := 0 }
set_option maxHeartbeats 4000000 in
set_option maxRecDepth 100000 in
theorem c_Model_isSame {l : Launch} {s0 : State} {D : va_G} {ca : Nat → ClassId} (C : hv_C l s0 D (hv_tys ca)) {w : hv_W} {K : Nat → Nat} {w0 : hv_W} {A : mA} {B : mB} {q : Nat} (kd : Int32) (x : Int64) (hq : q < 3840) (hM : mK ca K w0 A B w) (hts9 : A.tapeSize ≤ 24)  :
    hv_Met l y_Model_isSame [.code y_Model_isSame b_Model_isSame 7 (some .boolean)] rm_Model_isSame (hv_Pc s0 D w [.ref (K 0), .int (nI q), .int kd, .long x]) (hv_Q s0 D (fun v w' => w' = w ∧ ((v = some (.int 1) ∧ m_same A B q kd x) ∨ (v = some (.int 0) ∧ ¬ m_same A B q kd x))) (fun _ _ => False)) 0 0 (hv_A s0.heap.size) := by
  refine hv_enter C _ (by decide) (Nat.le_of_ble_eq_true rfl) ?_
  intro p e s m below meth c ls Q hQ hx hb hr hml hown hts hK hZ hlocks hname hout htr hP hl
  have hown : s.vm.findClass R_Model = some m.cls := hown
  have hS : va_S (hv_A s0.heap.size) s.heap s.heap [] := va_S.rf
  have hl : lv_has ls 7 [(0, .ref (K 0)), (1, .int (nI q)), (2, .int kd), (3, .long x)] := hl
  refine lv_aload_n hx hb d_Model_isSame_0 rfl (lv_at hl 0 rfl) ?_
  have h1 : w (K 0) = some (.inr (7, [.int A.thrown, .ref (K 1), .ref (K 2), .ref (K 3), .ref (K 4), .ref (K 5), .ref (K 6), .ref (K 7), .ref (K 8), .ref (K 9), .ref (K 10), .ref (K 11), .ref (K 12), .int (nI A.tapeSize), .ref (K 13), .int A.error, .int A.off, .int A.inside, .int (nI A.changes), .int (nI A.earlier), .int (nI A.logged), .int A.over, .int (nI A.loose), .int A.written, .int (nI A.due)])) := hM.1.2 0 (by decide)
  refine va_get (D := D) (ci := 7) (v := .ref (K 9)) (C := R_Model) (T := F_Model) (N := 25) hx hb hts i_Model hown hK (hv_one hP h1) 0 rfl rfl 9 (by decide) (hts _ k_Model_35) (fun _ h9 => h9) rfl d_Model_isSame_1 ?_
  refine lv_iload_n hx hb d_Model_isSame_4 rfl (lv_at hl 1 rfl) ?_
  have h2 : w (K 9) = some (.inl (ca 0, 3840, .inl B.kinds)) := hM.1.2 9 (by decide)
  refine va_iald hx hb hK (hv_one hP h2) 0 0 rfl rfl (vp_in_nI (n := q) (by omega) (by omega)) d_Model_isSame_5 ?_
  rw [nI_clamp (n := q) (by omega)]
  refine lv_iload_n hx hb d_Model_isSame_6 rfl (lv_at hl 2 rfl) ?_
  refine lv_icmp_ne (tgt := 25) hx hb d_Model_isSame_7 (by decide) (fun c7 => ?_) (fun c7 => ?_)
  · refine lv_iconst (v := 0) hx hb d_Model_isSame_25 (by decide) ?_
    refine lv_istore (lv' := [(5, .int 0), (0, .ref (K 0)), (1, .int (nI q)), (2, .int kd), (3, .long x)]) hx hb d_Model_isSame_26 hl (by decide) rfl (fun ls hl => ?_)
    refine lv_iconst (v := 0) hx hb d_Model_isSame_28 (by decide) ?_
    refine lv_istore (lv' := [(6, .int 0), (5, .int 0), (0, .ref (K 0)), (1, .int (nI q)), (2, .int kd), (3, .long x)]) hx hb d_Model_isSame_29 hl (by decide) rfl (fun ls hl => ?_)
    have h3 : w (K 11) = some (.inl (ca 3, 11520, .inr (.inl B.texts))) := hM.1.2 11 (by decide)
    have h4 : w (K 13) = some (.inl (ca 3, 3, .inr (.inl A.tape))) := hM.1.2 13 (by decide)
    have lp : ∀ (n9lp : Nat) (k : Nat) (r : Int32), A.tapeSize - k < n9lp → (k ≤ A.tapeSize) → ((r = 1 ∧ B.kinds q = kd ∧ B.values q = x ∧ (kd = 3 → ∀ i, i < k → m_b (B.texts (3 * q + i / 8)) (i % 8) = m_b (A.tape (i / 8)) (i % 8))) ∨ (r = 0 ∧ ¬ m_same A B q kd x)) → ∀ (H : Heap) (locs : List Loc) (ls : Array Slot), hv_P D classes s0.heap.size w H → va_S (hv_A s0.heap.size) s.heap H locs → lv_has ls 7 [(0, .ref (K 0)), (1, .int (nI q)), (2, .int kd), (3, .long x), (5, .int r), (6, .int (nI k))] → W p l e rm_Model_isSame s m ([.ref (K 0), .int (nI q), .int kd, .long x] : List Value).toArray below meth c H locs 0 0 Q (F0 m 31 ls []) := by
      intro n9lp
      induction n9lp with
      | zero =>
        intro k r hn9lp
        exact absurd hn9lp (Nat.not_lt_zero _)
      | succ n9lp ihlp =>
        intro k r hn9lp hk hd H locs ls hP hS hl
        refine lv_iload hx hb d_Model_isSame_31 (lv_at hl 5 rfl) ?_
        refine lv_aload_n hx hb d_Model_isSame_33 rfl (lv_at hl 0 rfl) ?_
        refine va_get (D := D) (ci := 7) (v := .int (nI A.tapeSize)) (C := R_Model) (T := F_Model) (N := 25) hx hb hts i_Model hown hK (hv_one hP h1) 0 rfl rfl 13 (by decide) (hts _ k_Model_103) (fun _ h9 => h9) rfl d_Model_isSame_34 ?_
        refine gk_icmp_ge (x := k) (y := A.tapeSize) (tgt := 117) hx hb d_Model_isSame_37 (by decide) (by omega) (by omega) (fun c37 => ?_) (fun c37 => ?_)
        · refine lv_iload hx hb d_Model_isSame_117 (lv_at hl 4 rfl) ?_
          exact hv_zret (v := r) hQ hx hb hr (by rcases hd with z | z <;> rw [z.1] <;> decide) hZ hS hP hlocks d_Model_isSame_119 (⟨rfl, hd.elim (fun z => Or.inl ⟨by rw [z.1], z.2.1, z.2.2.1, fun y j hj9 => z.2.2.2 y j (by omega)⟩) (fun z => Or.inr ⟨by rw [z.1], z.2⟩)⟩)
        · refine lv_iload hx hb d_Model_isSame_40 (lv_at hl 4 rfl) ?_
          refine lv_if_eq (tgt := 117) hx hb d_Model_isSame_42 (by decide) (fun c42 => ?_) (fun c42 => ?_)
          · refine lv_iload hx hb d_Model_isSame_117 (lv_at hl 4 rfl) ?_
            exact hv_zret (v := r) hQ hx hb hr (by rcases hd with z | z <;> rw [z.1] <;> decide) hZ hS hP hlocks d_Model_isSame_119 (⟨rfl, Or.inr ⟨by rw [c42], hd.elim (fun z => absurd (z.1.symm.trans c42) (by decide)) (fun z => z.2)⟩⟩)
          · have hdl := hd.resolve_right (fun z => c42 z.1)
            refine lv_iload_n hx hb d_Model_isSame_45 rfl (lv_at hl 2 rfl) ?_
            refine lv_iconst (v := 3) hx hb d_Model_isSame_46 (by decide) ?_
            refine lv_icmp_ne (tgt := 117) hx hb d_Model_isSame_47 (by decide) (fun c47 => ?_) (fun c47 => ?_)
            · refine lv_iload hx hb d_Model_isSame_117 (lv_at hl 4 rfl) ?_
              exact hv_zret (v := r) hQ hx hb hr (by rcases hd with z | z <;> rw [z.1] <;> decide) hZ hS hP hlocks d_Model_isSame_119 (⟨rfl, Or.inl ⟨by rw [hdl.1], hdl.2.1, hdl.2.2.1, fun y => absurd y c47⟩⟩)
            · refine lv_aload_n hx hb d_Model_isSame_50 rfl (lv_at hl 0 rfl) ?_
              refine va_get (D := D) (ci := 7) (v := .ref (K 11)) (C := R_Model) (T := F_Model) (N := 25) hx hb hts i_Model hown hK (hv_one hP h1) 0 rfl rfl 11 (by decide) (hts _ k_Model_42) (fun _ h9 => h9) rfl d_Model_isSame_51 ?_
              refine lv_iconst (v := 3) hx hb d_Model_isSame_54 (by decide) ?_
              refine lv_iload_n hx hb d_Model_isSame_55 rfl (lv_at hl 1 rfl) ?_
              refine gk_imul (x := 3) (y := q) hx hb d_Model_isSame_56 ?_
              refine lv_iload hx hb d_Model_isSame_57 (lv_at hl 5 rfl) ?_
              refine lv_bipush (v := 8) hx hb d_Model_isSame_59 (by decide) ?_
              refine gk_idiv (x := k) (y := 8) hx hb d_Model_isSame_61 (by omega) (by omega) (by omega) ?_
              refine gk_iadd (x := 3 * q) (y := k / 8) hx hb d_Model_isSame_62 ?_
              refine va_lald hx hb hK (hv_one hP h3) 0 3 rfl rfl (vp_in_nI (n := (3 * q) + (k / 8)) (by omega) (by omega)) d_Model_isSame_63 ?_
              rw [nI_clamp (n := (3 * q) + (k / 8)) (by omega)]
              refine lv_bipush (v := 8) hx hb d_Model_isSame_64 (by decide) ?_
              refine lv_iload hx hb d_Model_isSame_66 (lv_at hl 5 rfl) ?_
              refine lv_bipush (v := 8) hx hb d_Model_isSame_68 (by decide) ?_
              refine gk_irem (x := k) (y := 8) hx hb d_Model_isSame_70 (by omega) (by omega) (by omega) ?_
              refine gk_imul (x := 8) (y := k % 8) hx hb d_Model_isSame_71 ?_
              refine lv_lshr (v := (B.texts ((3 * q) + (k / 8))) >>> ((nI (8 * (k % 8))).toInt64 &&& 63)) hx hb d_Model_isSame_72 rfl ?_
              refine lv_ldc2 (v := 255) hx hb hown (hts _ k_Model_106) d_Model_isSame_73 ?_
              refine lv_land hx hb d_Model_isSame_76 ?_
              refine lv_aload_n hx hb d_Model_isSame_77 rfl (lv_at hl 0 rfl) ?_
              refine va_get (D := D) (ci := 7) (v := .ref (K 13)) (C := R_Model) (T := F_Model) (N := 25) hx hb hts i_Model hown hK (hv_one hP h1) 0 rfl rfl 14 (by decide) (hts _ k_Model_48) (fun _ h9 => h9) rfl d_Model_isSame_78 ?_
              refine lv_iload hx hb d_Model_isSame_81 (lv_at hl 5 rfl) ?_
              refine lv_bipush (v := 8) hx hb d_Model_isSame_83 (by decide) ?_
              refine gk_idiv (x := k) (y := 8) hx hb d_Model_isSame_85 (by omega) (by omega) (by omega) ?_
              refine va_lald hx hb hK (hv_one hP h4) 0 3 rfl rfl (vp_in_nI (n := k / 8) (by omega) (by omega)) d_Model_isSame_86 ?_
              rw [nI_clamp (n := k / 8) (by omega)]
              refine lv_bipush (v := 8) hx hb d_Model_isSame_87 (by decide) ?_
              refine lv_iload hx hb d_Model_isSame_89 (lv_at hl 5 rfl) ?_
              refine lv_bipush (v := 8) hx hb d_Model_isSame_91 (by decide) ?_
              refine gk_irem (x := k) (y := 8) hx hb d_Model_isSame_93 (by omega) (by omega) (by omega) ?_
              refine gk_imul (x := 8) (y := k % 8) hx hb d_Model_isSame_94 ?_
              refine lv_lshr (v := (A.tape (k / 8)) >>> ((nI (8 * (k % 8))).toInt64 &&& 63)) hx hb d_Model_isSame_95 rfl ?_
              refine lv_ldc2 (v := 255) hx hb hown (hts _ k_Model_106) d_Model_isSame_96 ?_
              refine lv_land hx hb d_Model_isSame_99 ?_
              refine W.lcmp hx hb d_Model_isSame_100 ?_
              refine lv_if_ne (tgt := 108) hx hb d_Model_isSame_101 (by decide) (fun c101 => ?_) (fun c101 => ?_)
              · refine lv_iconst (v := 0) hx hb d_Model_isSame_108 (by decide) ?_
                refine lv_istore (lv' := [(5, .int 0), (0, .ref (K 0)), (1, .int (nI q)), (2, .int kd), (3, .long x), (6, .int (nI k))]) hx hb d_Model_isSame_109 hl (by decide) rfl (fun ls hl => ?_)
                refine lv_iinc (v := (nI (k + 1))) (lv' := [(6, .int ((nI (k + 1)))), (5, .int 0), (0, .ref (K 0)), (1, .int (nI q)), (2, .int kd), (3, .long x)]) hx hb d_Model_isSame_111 hl (k := 5) rfl (nI_add k 1) (by decide) rfl (fun ls hl => ?_)
                refine lv_goto (tgt := 31) hx hb d_Model_isSame_114 (by decide) ?_
                exact ihlp (k + 1) 0 (by omega) (by omega) (Or.inr ⟨rfl, fun z => c101 (by have z9 := z.2.2 c47 k c37; unfold m_b at z9; rw [z9]; exact g_lcmp_refl _)⟩) _ _ _ hP hS (lv_sub hl [2, 3, 4, 5, 1, 0] rfl)
              · refine lv_iconst (v := 1) hx hb d_Model_isSame_104 (by decide) ?_
                refine lv_goto (tgt := 109) hx hb d_Model_isSame_105 (by decide) ?_
                refine lv_istore (lv' := [(5, .int 1), (0, .ref (K 0)), (1, .int (nI q)), (2, .int kd), (3, .long x), (6, .int (nI k))]) hx hb d_Model_isSame_109 hl (by decide) rfl (fun ls hl => ?_)
                refine lv_iinc (v := (nI (k + 1))) (lv' := [(6, .int ((nI (k + 1)))), (5, .int 1), (0, .ref (K 0)), (1, .int (nI q)), (2, .int kd), (3, .long x)]) hx hb d_Model_isSame_111 hl (k := 5) rfl (nI_add k 1) (by decide) rfl (fun ls hl => ?_)
                refine lv_goto (tgt := 31) hx hb d_Model_isSame_114 (by decide) ?_
                exact ihlp (k + 1) 1 (by omega) (by omega) (Or.inl ⟨rfl, hdl.2.1, hdl.2.2.1, fun z => lt_s (hdl.2.2.2 z) (g_lcmp_eq c101)⟩) _ _ _ hP hS (lv_sub hl [2, 3, 4, 5, 1, 0] rfl)
    exact lp _ 0 0 (Nat.lt_succ_self _) (Nat.zero_le _) (Or.inr ⟨rfl, fun z => c7 z.1⟩) _ _ _ hP hS (lv_sub hl [2, 3, 4, 5, 1, 0] rfl)
  · refine lv_aload_n hx hb d_Model_isSame_10 rfl (lv_at hl 0 rfl) ?_
    refine va_get (D := D) (ci := 7) (v := .ref (K 10)) (C := R_Model) (T := F_Model) (N := 25) hx hb hts i_Model hown hK (hv_one hP h1) 0 rfl rfl 10 (by decide) (hts _ k_Model_38) (fun _ h9 => h9) rfl d_Model_isSame_11 ?_
    refine lv_iload_n hx hb d_Model_isSame_14 rfl (lv_at hl 1 rfl) ?_
    have h5 : w (K 10) = some (.inl (ca 3, 3840, .inr (.inl B.values))) := hM.1.2 10 (by decide)
    refine va_lald hx hb hK (hv_one hP h5) 0 3 rfl rfl (vp_in_nI (n := q) (by omega) (by omega)) d_Model_isSame_15 ?_
    rw [nI_clamp (n := q) (by omega)]
    refine lv_lload_n hx hb d_Model_isSame_16 rfl (lv_at hl 3 rfl) ?_
    refine W.lcmp hx hb d_Model_isSame_17 ?_
    refine lv_if_ne (tgt := 25) hx hb d_Model_isSame_18 (by decide) (fun c18 => ?_) (fun c18 => ?_)
    · refine lv_iconst (v := 0) hx hb d_Model_isSame_25 (by decide) ?_
      refine lv_istore (lv' := [(5, .int 0), (0, .ref (K 0)), (1, .int (nI q)), (2, .int kd), (3, .long x)]) hx hb d_Model_isSame_26 hl (by decide) rfl (fun ls hl => ?_)
      refine lv_iconst (v := 0) hx hb d_Model_isSame_28 (by decide) ?_
      refine lv_istore (lv' := [(6, .int 0), (5, .int 0), (0, .ref (K 0)), (1, .int (nI q)), (2, .int kd), (3, .long x)]) hx hb d_Model_isSame_29 hl (by decide) rfl (fun ls hl => ?_)
      have h6 : w (K 11) = some (.inl (ca 3, 11520, .inr (.inl B.texts))) := hM.1.2 11 (by decide)
      have h7 : w (K 13) = some (.inl (ca 3, 3, .inr (.inl A.tape))) := hM.1.2 13 (by decide)
      have lp : ∀ (n9lp : Nat) (k : Nat) (r : Int32), A.tapeSize - k < n9lp → (k ≤ A.tapeSize) → ((r = 1 ∧ B.kinds q = kd ∧ B.values q = x ∧ (kd = 3 → ∀ i, i < k → m_b (B.texts (3 * q + i / 8)) (i % 8) = m_b (A.tape (i / 8)) (i % 8))) ∨ (r = 0 ∧ ¬ m_same A B q kd x)) → ∀ (H : Heap) (locs : List Loc) (ls : Array Slot), hv_P D classes s0.heap.size w H → va_S (hv_A s0.heap.size) s.heap H locs → lv_has ls 7 [(0, .ref (K 0)), (1, .int (nI q)), (2, .int kd), (3, .long x), (5, .int r), (6, .int (nI k))] → W p l e rm_Model_isSame s m ([.ref (K 0), .int (nI q), .int kd, .long x] : List Value).toArray below meth c H locs 0 0 Q (F0 m 31 ls []) := by
        intro n9lp
        induction n9lp with
        | zero =>
          intro k r hn9lp
          exact absurd hn9lp (Nat.not_lt_zero _)
        | succ n9lp ihlp =>
          intro k r hn9lp hk hd H locs ls hP hS hl
          refine lv_iload hx hb d_Model_isSame_31 (lv_at hl 5 rfl) ?_
          refine lv_aload_n hx hb d_Model_isSame_33 rfl (lv_at hl 0 rfl) ?_
          refine va_get (D := D) (ci := 7) (v := .int (nI A.tapeSize)) (C := R_Model) (T := F_Model) (N := 25) hx hb hts i_Model hown hK (hv_one hP h1) 0 rfl rfl 13 (by decide) (hts _ k_Model_103) (fun _ h9 => h9) rfl d_Model_isSame_34 ?_
          refine gk_icmp_ge (x := k) (y := A.tapeSize) (tgt := 117) hx hb d_Model_isSame_37 (by decide) (by omega) (by omega) (fun c37 => ?_) (fun c37 => ?_)
          · refine lv_iload hx hb d_Model_isSame_117 (lv_at hl 4 rfl) ?_
            exact hv_zret (v := r) hQ hx hb hr (by rcases hd with z | z <;> rw [z.1] <;> decide) hZ hS hP hlocks d_Model_isSame_119 (⟨rfl, hd.elim (fun z => Or.inl ⟨by rw [z.1], z.2.1, z.2.2.1, fun y j hj9 => z.2.2.2 y j (by omega)⟩) (fun z => Or.inr ⟨by rw [z.1], z.2⟩)⟩)
          · refine lv_iload hx hb d_Model_isSame_40 (lv_at hl 4 rfl) ?_
            refine lv_if_eq (tgt := 117) hx hb d_Model_isSame_42 (by decide) (fun c42 => ?_) (fun c42 => ?_)
            · refine lv_iload hx hb d_Model_isSame_117 (lv_at hl 4 rfl) ?_
              exact hv_zret (v := r) hQ hx hb hr (by rcases hd with z | z <;> rw [z.1] <;> decide) hZ hS hP hlocks d_Model_isSame_119 (⟨rfl, Or.inr ⟨by rw [c42], hd.elim (fun z => absurd (z.1.symm.trans c42) (by decide)) (fun z => z.2)⟩⟩)
            · have hdl := hd.resolve_right (fun z => c42 z.1)
              refine lv_iload_n hx hb d_Model_isSame_45 rfl (lv_at hl 2 rfl) ?_
              refine lv_iconst (v := 3) hx hb d_Model_isSame_46 (by decide) ?_
              refine lv_icmp_ne (tgt := 117) hx hb d_Model_isSame_47 (by decide) (fun c47 => ?_) (fun c47 => ?_)
              · refine lv_iload hx hb d_Model_isSame_117 (lv_at hl 4 rfl) ?_
                exact hv_zret (v := r) hQ hx hb hr (by rcases hd with z | z <;> rw [z.1] <;> decide) hZ hS hP hlocks d_Model_isSame_119 (⟨rfl, Or.inl ⟨by rw [hdl.1], hdl.2.1, hdl.2.2.1, fun y => absurd y c47⟩⟩)
              · refine lv_aload_n hx hb d_Model_isSame_50 rfl (lv_at hl 0 rfl) ?_
                refine va_get (D := D) (ci := 7) (v := .ref (K 11)) (C := R_Model) (T := F_Model) (N := 25) hx hb hts i_Model hown hK (hv_one hP h1) 0 rfl rfl 11 (by decide) (hts _ k_Model_42) (fun _ h9 => h9) rfl d_Model_isSame_51 ?_
                refine lv_iconst (v := 3) hx hb d_Model_isSame_54 (by decide) ?_
                refine lv_iload_n hx hb d_Model_isSame_55 rfl (lv_at hl 1 rfl) ?_
                refine gk_imul (x := 3) (y := q) hx hb d_Model_isSame_56 ?_
                refine lv_iload hx hb d_Model_isSame_57 (lv_at hl 5 rfl) ?_
                refine lv_bipush (v := 8) hx hb d_Model_isSame_59 (by decide) ?_
                refine gk_idiv (x := k) (y := 8) hx hb d_Model_isSame_61 (by omega) (by omega) (by omega) ?_
                refine gk_iadd (x := 3 * q) (y := k / 8) hx hb d_Model_isSame_62 ?_
                refine va_lald hx hb hK (hv_one hP h6) 0 3 rfl rfl (vp_in_nI (n := (3 * q) + (k / 8)) (by omega) (by omega)) d_Model_isSame_63 ?_
                rw [nI_clamp (n := (3 * q) + (k / 8)) (by omega)]
                refine lv_bipush (v := 8) hx hb d_Model_isSame_64 (by decide) ?_
                refine lv_iload hx hb d_Model_isSame_66 (lv_at hl 5 rfl) ?_
                refine lv_bipush (v := 8) hx hb d_Model_isSame_68 (by decide) ?_
                refine gk_irem (x := k) (y := 8) hx hb d_Model_isSame_70 (by omega) (by omega) (by omega) ?_
                refine gk_imul (x := 8) (y := k % 8) hx hb d_Model_isSame_71 ?_
                refine lv_lshr (v := (B.texts ((3 * q) + (k / 8))) >>> ((nI (8 * (k % 8))).toInt64 &&& 63)) hx hb d_Model_isSame_72 rfl ?_
                refine lv_ldc2 (v := 255) hx hb hown (hts _ k_Model_106) d_Model_isSame_73 ?_
                refine lv_land hx hb d_Model_isSame_76 ?_
                refine lv_aload_n hx hb d_Model_isSame_77 rfl (lv_at hl 0 rfl) ?_
                refine va_get (D := D) (ci := 7) (v := .ref (K 13)) (C := R_Model) (T := F_Model) (N := 25) hx hb hts i_Model hown hK (hv_one hP h1) 0 rfl rfl 14 (by decide) (hts _ k_Model_48) (fun _ h9 => h9) rfl d_Model_isSame_78 ?_
                refine lv_iload hx hb d_Model_isSame_81 (lv_at hl 5 rfl) ?_
                refine lv_bipush (v := 8) hx hb d_Model_isSame_83 (by decide) ?_
                refine gk_idiv (x := k) (y := 8) hx hb d_Model_isSame_85 (by omega) (by omega) (by omega) ?_
                refine va_lald hx hb hK (hv_one hP h7) 0 3 rfl rfl (vp_in_nI (n := k / 8) (by omega) (by omega)) d_Model_isSame_86 ?_
                rw [nI_clamp (n := k / 8) (by omega)]
                refine lv_bipush (v := 8) hx hb d_Model_isSame_87 (by decide) ?_
                refine lv_iload hx hb d_Model_isSame_89 (lv_at hl 5 rfl) ?_
                refine lv_bipush (v := 8) hx hb d_Model_isSame_91 (by decide) ?_
                refine gk_irem (x := k) (y := 8) hx hb d_Model_isSame_93 (by omega) (by omega) (by omega) ?_
                refine gk_imul (x := 8) (y := k % 8) hx hb d_Model_isSame_94 ?_
                refine lv_lshr (v := (A.tape (k / 8)) >>> ((nI (8 * (k % 8))).toInt64 &&& 63)) hx hb d_Model_isSame_95 rfl ?_
                refine lv_ldc2 (v := 255) hx hb hown (hts _ k_Model_106) d_Model_isSame_96 ?_
                refine lv_land hx hb d_Model_isSame_99 ?_
                refine W.lcmp hx hb d_Model_isSame_100 ?_
                refine lv_if_ne (tgt := 108) hx hb d_Model_isSame_101 (by decide) (fun c101 => ?_) (fun c101 => ?_)
                · refine lv_iconst (v := 0) hx hb d_Model_isSame_108 (by decide) ?_
                  refine lv_istore (lv' := [(5, .int 0), (0, .ref (K 0)), (1, .int (nI q)), (2, .int kd), (3, .long x), (6, .int (nI k))]) hx hb d_Model_isSame_109 hl (by decide) rfl (fun ls hl => ?_)
                  refine lv_iinc (v := (nI (k + 1))) (lv' := [(6, .int ((nI (k + 1)))), (5, .int 0), (0, .ref (K 0)), (1, .int (nI q)), (2, .int kd), (3, .long x)]) hx hb d_Model_isSame_111 hl (k := 5) rfl (nI_add k 1) (by decide) rfl (fun ls hl => ?_)
                  refine lv_goto (tgt := 31) hx hb d_Model_isSame_114 (by decide) ?_
                  exact ihlp (k + 1) 0 (by omega) (by omega) (Or.inr ⟨rfl, fun z => c101 (by have z9 := z.2.2 c47 k c37; unfold m_b at z9; rw [z9]; exact g_lcmp_refl _)⟩) _ _ _ hP hS (lv_sub hl [2, 3, 4, 5, 1, 0] rfl)
                · refine lv_iconst (v := 1) hx hb d_Model_isSame_104 (by decide) ?_
                  refine lv_goto (tgt := 109) hx hb d_Model_isSame_105 (by decide) ?_
                  refine lv_istore (lv' := [(5, .int 1), (0, .ref (K 0)), (1, .int (nI q)), (2, .int kd), (3, .long x), (6, .int (nI k))]) hx hb d_Model_isSame_109 hl (by decide) rfl (fun ls hl => ?_)
                  refine lv_iinc (v := (nI (k + 1))) (lv' := [(6, .int ((nI (k + 1)))), (5, .int 1), (0, .ref (K 0)), (1, .int (nI q)), (2, .int kd), (3, .long x)]) hx hb d_Model_isSame_111 hl (k := 5) rfl (nI_add k 1) (by decide) rfl (fun ls hl => ?_)
                  refine lv_goto (tgt := 31) hx hb d_Model_isSame_114 (by decide) ?_
                  exact ihlp (k + 1) 1 (by omega) (by omega) (Or.inl ⟨rfl, hdl.2.1, hdl.2.2.1, fun z => lt_s (hdl.2.2.2 z) (g_lcmp_eq c101)⟩) _ _ _ hP hS (lv_sub hl [2, 3, 4, 5, 1, 0] rfl)
      exact lp _ 0 0 (Nat.lt_succ_self _) (Nat.zero_le _) (Or.inr ⟨rfl, fun z => c18 (by rw [z.2.1]; exact g_lcmp_refl _)⟩) _ _ _ hP hS (lv_sub hl [2, 3, 4, 5, 1, 0] rfl)
    · refine lv_iconst (v := 1) hx hb d_Model_isSame_21 (by decide) ?_
      refine lv_goto (tgt := 26) hx hb d_Model_isSame_22 (by decide) ?_
      refine lv_istore (lv' := [(5, .int 1), (0, .ref (K 0)), (1, .int (nI q)), (2, .int kd), (3, .long x)]) hx hb d_Model_isSame_26 hl (by decide) rfl (fun ls hl => ?_)
      refine lv_iconst (v := 0) hx hb d_Model_isSame_28 (by decide) ?_
      refine lv_istore (lv' := [(6, .int 0), (5, .int 1), (0, .ref (K 0)), (1, .int (nI q)), (2, .int kd), (3, .long x)]) hx hb d_Model_isSame_29 hl (by decide) rfl (fun ls hl => ?_)
      have h8 : w (K 11) = some (.inl (ca 3, 11520, .inr (.inl B.texts))) := hM.1.2 11 (by decide)
      have h9 : w (K 13) = some (.inl (ca 3, 3, .inr (.inl A.tape))) := hM.1.2 13 (by decide)
      have lp : ∀ (n9lp : Nat) (k : Nat) (r : Int32), A.tapeSize - k < n9lp → (k ≤ A.tapeSize) → ((r = 1 ∧ B.kinds q = kd ∧ B.values q = x ∧ (kd = 3 → ∀ i, i < k → m_b (B.texts (3 * q + i / 8)) (i % 8) = m_b (A.tape (i / 8)) (i % 8))) ∨ (r = 0 ∧ ¬ m_same A B q kd x)) → ∀ (H : Heap) (locs : List Loc) (ls : Array Slot), hv_P D classes s0.heap.size w H → va_S (hv_A s0.heap.size) s.heap H locs → lv_has ls 7 [(0, .ref (K 0)), (1, .int (nI q)), (2, .int kd), (3, .long x), (5, .int r), (6, .int (nI k))] → W p l e rm_Model_isSame s m ([.ref (K 0), .int (nI q), .int kd, .long x] : List Value).toArray below meth c H locs 0 0 Q (F0 m 31 ls []) := by
        intro n9lp
        induction n9lp with
        | zero =>
          intro k r hn9lp
          exact absurd hn9lp (Nat.not_lt_zero _)
        | succ n9lp ihlp =>
          intro k r hn9lp hk hd H locs ls hP hS hl
          refine lv_iload hx hb d_Model_isSame_31 (lv_at hl 5 rfl) ?_
          refine lv_aload_n hx hb d_Model_isSame_33 rfl (lv_at hl 0 rfl) ?_
          refine va_get (D := D) (ci := 7) (v := .int (nI A.tapeSize)) (C := R_Model) (T := F_Model) (N := 25) hx hb hts i_Model hown hK (hv_one hP h1) 0 rfl rfl 13 (by decide) (hts _ k_Model_103) (fun _ h9 => h9) rfl d_Model_isSame_34 ?_
          refine gk_icmp_ge (x := k) (y := A.tapeSize) (tgt := 117) hx hb d_Model_isSame_37 (by decide) (by omega) (by omega) (fun c37 => ?_) (fun c37 => ?_)
          · refine lv_iload hx hb d_Model_isSame_117 (lv_at hl 4 rfl) ?_
            exact hv_zret (v := r) hQ hx hb hr (by rcases hd with z | z <;> rw [z.1] <;> decide) hZ hS hP hlocks d_Model_isSame_119 (⟨rfl, hd.elim (fun z => Or.inl ⟨by rw [z.1], z.2.1, z.2.2.1, fun y j hj9 => z.2.2.2 y j (by omega)⟩) (fun z => Or.inr ⟨by rw [z.1], z.2⟩)⟩)
          · refine lv_iload hx hb d_Model_isSame_40 (lv_at hl 4 rfl) ?_
            refine lv_if_eq (tgt := 117) hx hb d_Model_isSame_42 (by decide) (fun c42 => ?_) (fun c42 => ?_)
            · refine lv_iload hx hb d_Model_isSame_117 (lv_at hl 4 rfl) ?_
              exact hv_zret (v := r) hQ hx hb hr (by rcases hd with z | z <;> rw [z.1] <;> decide) hZ hS hP hlocks d_Model_isSame_119 (⟨rfl, Or.inr ⟨by rw [c42], hd.elim (fun z => absurd (z.1.symm.trans c42) (by decide)) (fun z => z.2)⟩⟩)
            · have hdl := hd.resolve_right (fun z => c42 z.1)
              refine lv_iload_n hx hb d_Model_isSame_45 rfl (lv_at hl 2 rfl) ?_
              refine lv_iconst (v := 3) hx hb d_Model_isSame_46 (by decide) ?_
              refine lv_icmp_ne (tgt := 117) hx hb d_Model_isSame_47 (by decide) (fun c47 => ?_) (fun c47 => ?_)
              · refine lv_iload hx hb d_Model_isSame_117 (lv_at hl 4 rfl) ?_
                exact hv_zret (v := r) hQ hx hb hr (by rcases hd with z | z <;> rw [z.1] <;> decide) hZ hS hP hlocks d_Model_isSame_119 (⟨rfl, Or.inl ⟨by rw [hdl.1], hdl.2.1, hdl.2.2.1, fun y => absurd y c47⟩⟩)
              · refine lv_aload_n hx hb d_Model_isSame_50 rfl (lv_at hl 0 rfl) ?_
                refine va_get (D := D) (ci := 7) (v := .ref (K 11)) (C := R_Model) (T := F_Model) (N := 25) hx hb hts i_Model hown hK (hv_one hP h1) 0 rfl rfl 11 (by decide) (hts _ k_Model_42) (fun _ h9 => h9) rfl d_Model_isSame_51 ?_
                refine lv_iconst (v := 3) hx hb d_Model_isSame_54 (by decide) ?_
                refine lv_iload_n hx hb d_Model_isSame_55 rfl (lv_at hl 1 rfl) ?_
                refine gk_imul (x := 3) (y := q) hx hb d_Model_isSame_56 ?_
                refine lv_iload hx hb d_Model_isSame_57 (lv_at hl 5 rfl) ?_
                refine lv_bipush (v := 8) hx hb d_Model_isSame_59 (by decide) ?_
                refine gk_idiv (x := k) (y := 8) hx hb d_Model_isSame_61 (by omega) (by omega) (by omega) ?_
                refine gk_iadd (x := 3 * q) (y := k / 8) hx hb d_Model_isSame_62 ?_
                refine va_lald hx hb hK (hv_one hP h8) 0 3 rfl rfl (vp_in_nI (n := (3 * q) + (k / 8)) (by omega) (by omega)) d_Model_isSame_63 ?_
                rw [nI_clamp (n := (3 * q) + (k / 8)) (by omega)]
                refine lv_bipush (v := 8) hx hb d_Model_isSame_64 (by decide) ?_
                refine lv_iload hx hb d_Model_isSame_66 (lv_at hl 5 rfl) ?_
                refine lv_bipush (v := 8) hx hb d_Model_isSame_68 (by decide) ?_
                refine gk_irem (x := k) (y := 8) hx hb d_Model_isSame_70 (by omega) (by omega) (by omega) ?_
                refine gk_imul (x := 8) (y := k % 8) hx hb d_Model_isSame_71 ?_
                refine lv_lshr (v := (B.texts ((3 * q) + (k / 8))) >>> ((nI (8 * (k % 8))).toInt64 &&& 63)) hx hb d_Model_isSame_72 rfl ?_
                refine lv_ldc2 (v := 255) hx hb hown (hts _ k_Model_106) d_Model_isSame_73 ?_
                refine lv_land hx hb d_Model_isSame_76 ?_
                refine lv_aload_n hx hb d_Model_isSame_77 rfl (lv_at hl 0 rfl) ?_
                refine va_get (D := D) (ci := 7) (v := .ref (K 13)) (C := R_Model) (T := F_Model) (N := 25) hx hb hts i_Model hown hK (hv_one hP h1) 0 rfl rfl 14 (by decide) (hts _ k_Model_48) (fun _ h9 => h9) rfl d_Model_isSame_78 ?_
                refine lv_iload hx hb d_Model_isSame_81 (lv_at hl 5 rfl) ?_
                refine lv_bipush (v := 8) hx hb d_Model_isSame_83 (by decide) ?_
                refine gk_idiv (x := k) (y := 8) hx hb d_Model_isSame_85 (by omega) (by omega) (by omega) ?_
                refine va_lald hx hb hK (hv_one hP h9) 0 3 rfl rfl (vp_in_nI (n := k / 8) (by omega) (by omega)) d_Model_isSame_86 ?_
                rw [nI_clamp (n := k / 8) (by omega)]
                refine lv_bipush (v := 8) hx hb d_Model_isSame_87 (by decide) ?_
                refine lv_iload hx hb d_Model_isSame_89 (lv_at hl 5 rfl) ?_
                refine lv_bipush (v := 8) hx hb d_Model_isSame_91 (by decide) ?_
                refine gk_irem (x := k) (y := 8) hx hb d_Model_isSame_93 (by omega) (by omega) (by omega) ?_
                refine gk_imul (x := 8) (y := k % 8) hx hb d_Model_isSame_94 ?_
                refine lv_lshr (v := (A.tape (k / 8)) >>> ((nI (8 * (k % 8))).toInt64 &&& 63)) hx hb d_Model_isSame_95 rfl ?_
                refine lv_ldc2 (v := 255) hx hb hown (hts _ k_Model_106) d_Model_isSame_96 ?_
                refine lv_land hx hb d_Model_isSame_99 ?_
                refine W.lcmp hx hb d_Model_isSame_100 ?_
                refine lv_if_ne (tgt := 108) hx hb d_Model_isSame_101 (by decide) (fun c101 => ?_) (fun c101 => ?_)
                · refine lv_iconst (v := 0) hx hb d_Model_isSame_108 (by decide) ?_
                  refine lv_istore (lv' := [(5, .int 0), (0, .ref (K 0)), (1, .int (nI q)), (2, .int kd), (3, .long x), (6, .int (nI k))]) hx hb d_Model_isSame_109 hl (by decide) rfl (fun ls hl => ?_)
                  refine lv_iinc (v := (nI (k + 1))) (lv' := [(6, .int ((nI (k + 1)))), (5, .int 0), (0, .ref (K 0)), (1, .int (nI q)), (2, .int kd), (3, .long x)]) hx hb d_Model_isSame_111 hl (k := 5) rfl (nI_add k 1) (by decide) rfl (fun ls hl => ?_)
                  refine lv_goto (tgt := 31) hx hb d_Model_isSame_114 (by decide) ?_
                  exact ihlp (k + 1) 0 (by omega) (by omega) (Or.inr ⟨rfl, fun z => c101 (by have z9 := z.2.2 c47 k c37; unfold m_b at z9; rw [z9]; exact g_lcmp_refl _)⟩) _ _ _ hP hS (lv_sub hl [2, 3, 4, 5, 1, 0] rfl)
                · refine lv_iconst (v := 1) hx hb d_Model_isSame_104 (by decide) ?_
                  refine lv_goto (tgt := 109) hx hb d_Model_isSame_105 (by decide) ?_
                  refine lv_istore (lv' := [(5, .int 1), (0, .ref (K 0)), (1, .int (nI q)), (2, .int kd), (3, .long x), (6, .int (nI k))]) hx hb d_Model_isSame_109 hl (by decide) rfl (fun ls hl => ?_)
                  refine lv_iinc (v := (nI (k + 1))) (lv' := [(6, .int ((nI (k + 1)))), (5, .int 1), (0, .ref (K 0)), (1, .int (nI q)), (2, .int kd), (3, .long x)]) hx hb d_Model_isSame_111 hl (k := 5) rfl (nI_add k 1) (by decide) rfl (fun ls hl => ?_)
                  refine lv_goto (tgt := 31) hx hb d_Model_isSame_114 (by decide) ?_
                  exact ihlp (k + 1) 1 (by omega) (by omega) (Or.inl ⟨rfl, hdl.2.1, hdl.2.2.1, fun z => lt_s (hdl.2.2.2 z) (g_lcmp_eq c101)⟩) _ _ _ hP hS (lv_sub hl [2, 3, 4, 5, 1, 0] rfl)
      exact lp _ 0 1 (Nat.lt_succ_self _) (Nat.zero_le _) (Or.inl ⟨rfl, c7, g_lcmp_eq c18, fun _ j q9 => absurd q9 (Nat.not_lt_zero _)⟩) _ _ _ hP hS (lv_sub hl [2, 3, 4, 5, 1, 0] rfl)

abbrev rm_Model_lay : Room := { frames := 0, cells := 0, slots := 0, locals := 0 }
set_option maxHeartbeats 4000000 in
set_option maxRecDepth 100000 in
theorem c_Model_lay {l : Launch} {s0 : State} {D : va_G} {ca : Nat → ClassId} (C : hv_C l s0 D (hv_tys ca)) {w : hv_W} {K : Nat → Nat} {w0 : hv_W} {A : mA} {B : mB} {q : Nat} (y kd : Int32) (x : Int64) (hq : q < 3840) (hM : mK ca K w0 A B w)  :
    hv_Met l y_Model_lay [.code y_Model_lay b_Model_lay 7 none] rm_Model_lay (hv_Pc s0 D w [.ref (K 0), .int (nI q), .int y, .int kd, .long x]) (hv_Q s0 D (fun v w' => v = none ∧ ∃ g, mK ca K w0 A ((((B.sKeys (upd B.keys q y)).sKinds (upd B.kinds q kd)).sValues (vp_updL B.values q x)).sTexts g) w' ∧ (∀ k, k < 3 → g (3 * q + k) = if kd = 3 then A.tape k else 0) ∧ ∀ i, (i < 3 * q ∨ 3 * q + 3 ≤ i) → g i = B.texts i) (fun _ _ => False)) 0 0 (hv_A s0.heap.size) := by
  refine hv_enter C _ (by decide) (Nat.le_of_ble_eq_true rfl) ?_
  intro p e s m below meth c ls Q hQ hx hb hr hml hown hts hK hZ hlocks hname hout htr hP hl
  have hown : s.vm.findClass R_Model = some m.cls := hown
  have hS : va_S (hv_A s0.heap.size) s.heap s.heap [] := va_S.rf
  have hl : lv_has ls 7 [(0, .ref (K 0)), (1, .int (nI q)), (2, .int y), (3, .int kd), (4, .long x)] := hl
  refine lv_aload_n hx hb d_Model_lay_0 rfl (lv_at hl 0 rfl) ?_
  have h1 : w (K 0) = some (.inr (7, [.int A.thrown, .ref (K 1), .ref (K 2), .ref (K 3), .ref (K 4), .ref (K 5), .ref (K 6), .ref (K 7), .ref (K 8), .ref (K 9), .ref (K 10), .ref (K 11), .ref (K 12), .int (nI A.tapeSize), .ref (K 13), .int A.error, .int A.off, .int A.inside, .int (nI A.changes), .int (nI A.earlier), .int (nI A.logged), .int A.over, .int (nI A.loose), .int A.written, .int (nI A.due)])) := hM.1.2 0 (by decide)
  refine va_get (D := D) (ci := 7) (v := .ref (K 8)) (C := R_Model) (T := F_Model) (N := 25) hx hb hts i_Model hown hK (hv_one hP h1) 0 rfl rfl 8 (by decide) (hts _ k_Model_32) (fun _ h9 => h9) rfl d_Model_lay_1 ?_
  refine lv_iload_n hx hb d_Model_lay_4 rfl (lv_at hl 1 rfl) ?_
  refine lv_iload_n hx hb d_Model_lay_5 rfl (lv_at hl 2 rfl) ?_
  have h2 : w (K 8) = some (.inl (ca 0, 3840, .inl B.keys)) := hM.1.2 8 (by decide)
  refine hv_iast hx hb hK hP hS 0 h2 rfl (vp_in_nI (n := q) (by omega) (by omega)) d_Model_lay_6 (fun H locs hP hS => ?_)
  rw [nI_clamp (n := q) (by omega)] at hP
  obtain ⟨w3, ew3⟩ : ∃ z9 : hv_W, z9 = va_up w (K 8) (some (.inl (ca 0, 3840, .inl (upd B.keys q y)))) := ⟨_, rfl⟩
  have hP : hv_P D classes s0.heap.size w3 H := by rw [ew3]; exact hP
  have hM : mK ca K w0 A (B.sKeys (upd B.keys q y)) w3 := by rw [ew3]; exact hM.put 8 (by decide) rfl
  have h4 : w3 (K 8) = some (.inl (ca 0, 3840, .inl (upd B.keys q y))) := by rw [ew3]; exact hv_up_s
  refine lv_aload_n hx hb d_Model_lay_7 rfl (lv_at hl 0 rfl) ?_
  have h5 : w3 (K 0) = some (.inr (7, [.int A.thrown, .ref (K 1), .ref (K 2), .ref (K 3), .ref (K 4), .ref (K 5), .ref (K 6), .ref (K 7), .ref (K 8), .ref (K 9), .ref (K 10), .ref (K 11), .ref (K 12), .int (nI A.tapeSize), .ref (K 13), .int A.error, .int A.off, .int A.inside, .int (nI A.changes), .int (nI A.earlier), .int (nI A.logged), .int A.over, .int (nI A.loose), .int A.written, .int (nI A.due)])) := hM.1.2 0 (by decide)
  refine va_get (D := D) (ci := 7) (v := .ref (K 9)) (C := R_Model) (T := F_Model) (N := 25) hx hb hts i_Model hown hK (hv_one hP h5) 0 rfl rfl 9 (by decide) (hts _ k_Model_35) (fun _ h9 => h9) rfl d_Model_lay_8 ?_
  refine lv_iload_n hx hb d_Model_lay_11 rfl (lv_at hl 1 rfl) ?_
  refine lv_iload_n hx hb d_Model_lay_12 rfl (lv_at hl 3 rfl) ?_
  have h6 : w3 (K 9) = some (.inl (ca 0, 3840, .inl B.kinds)) := hM.1.2 9 (by decide)
  refine hv_iast hx hb hK hP hS 0 h6 rfl (vp_in_nI (n := q) (by omega) (by omega)) d_Model_lay_13 (fun H locs hP hS => ?_)
  rw [nI_clamp (n := q) (by omega)] at hP
  obtain ⟨w7, ew7⟩ : ∃ z9 : hv_W, z9 = va_up w3 (K 9) (some (.inl (ca 0, 3840, .inl (upd B.kinds q kd)))) := ⟨_, rfl⟩
  have hP : hv_P D classes s0.heap.size w7 H := by rw [ew7]; exact hP
  have hM : mK ca K w0 A ((B.sKeys (upd B.keys q y)).sKinds (upd B.kinds q kd)) w7 := by rw [ew7]; exact hM.put 9 (by decide) rfl
  have h8 : w7 (K 9) = some (.inl (ca 0, 3840, .inl (upd B.kinds q kd))) := by rw [ew7]; exact hv_up_s
  refine lv_aload_n hx hb d_Model_lay_14 rfl (lv_at hl 0 rfl) ?_
  have h9 : w7 (K 0) = some (.inr (7, [.int A.thrown, .ref (K 1), .ref (K 2), .ref (K 3), .ref (K 4), .ref (K 5), .ref (K 6), .ref (K 7), .ref (K 8), .ref (K 9), .ref (K 10), .ref (K 11), .ref (K 12), .int (nI A.tapeSize), .ref (K 13), .int A.error, .int A.off, .int A.inside, .int (nI A.changes), .int (nI A.earlier), .int (nI A.logged), .int A.over, .int (nI A.loose), .int A.written, .int (nI A.due)])) := hM.1.2 0 (by decide)
  refine va_get (D := D) (ci := 7) (v := .ref (K 10)) (C := R_Model) (T := F_Model) (N := 25) hx hb hts i_Model hown hK (hv_one hP h9) 0 rfl rfl 10 (by decide) (hts _ k_Model_38) (fun _ h9 => h9) rfl d_Model_lay_15 ?_
  refine lv_iload_n hx hb d_Model_lay_18 rfl (lv_at hl 1 rfl) ?_
  refine lv_lload hx hb d_Model_lay_19 (lv_at hl 4 rfl) ?_
  have h10 : w7 (K 10) = some (.inl (ca 3, 3840, .inr (.inl B.values))) := hM.1.2 10 (by decide)
  refine hv_last hx hb hK hP hS 3 h10 rfl (vp_in_nI (n := q) (by omega) (by omega)) d_Model_lay_21 (fun H locs hP hS => ?_)
  rw [nI_clamp (n := q) (by omega)] at hP
  obtain ⟨w11, ew11⟩ : ∃ z9 : hv_W, z9 = va_up w7 (K 10) (some (.inl (ca 3, 3840, .inr (.inl (vp_updL B.values q x))))) := ⟨_, rfl⟩
  have hP : hv_P D classes s0.heap.size w11 H := by rw [ew11]; exact hP
  have hM : mK ca K w0 A (((B.sKeys (upd B.keys q y)).sKinds (upd B.kinds q kd)).sValues (vp_updL B.values q x)) w11 := by rw [ew11]; exact hM.put 10 (by decide) rfl
  have h12 : w11 (K 10) = some (.inl (ca 3, 3840, .inr (.inl (vp_updL B.values q x)))) := by rw [ew11]; exact hv_up_s
  refine lv_iconst (v := 0) hx hb d_Model_lay_22 (by decide) ?_
  refine lv_istore (lv' := [(6, .int 0), (0, .ref (K 0)), (1, .int (nI q)), (2, .int y), (3, .int kd), (4, .long x)]) hx hb d_Model_lay_23 hl (by decide) rfl (fun ls hl => ?_)
  have lp : ∀ (n9lp : Nat) (k : Nat) (g : Nat → Int64) (z : hv_W), 3 - k < n9lp → (k ≤ 3) → (mK ca K w0 A ((((B.sKeys (upd B.keys q y)).sKinds (upd B.kinds q kd)).sValues (vp_updL B.values q x)).sTexts g) z) → (∀ k9, k9 < k → g (3 * q + k9) = if kd = 3 then A.tape k9 else 0) → (∀ i, (i < 3 * q ∨ 3 * q + 3 ≤ i) → g i = B.texts i) → ∀ (H : Heap) (locs : List Loc) (ls : Array Slot), hv_P D classes s0.heap.size z H → va_S (hv_A s0.heap.size) s.heap H locs → lv_has ls 7 [(0, .ref (K 0)), (1, .int (nI q)), (2, .int y), (3, .int kd), (4, .long x), (6, .int (nI k))] → W p l e rm_Model_lay s m ([.ref (K 0), .int (nI q), .int y, .int kd, .long x] : List Value).toArray below meth c H locs 0 0 Q (F0 m 25 ls []) := by
    intro n9lp
    induction n9lp with
    | zero =>
      intro k g z hn9lp
      exact absurd hn9lp (Nat.not_lt_zero _)
    | succ n9lp ihlp =>
      intro k g z hn9lp hk hM hj ho H locs ls hP hS hl
      refine lv_iload hx hb d_Model_lay_25 (lv_at hl 5 rfl) ?_
      refine lv_iconst (v := 3) hx hb d_Model_lay_27 (by decide) ?_
      refine gk_icmp_ge (x := k) (y := 3) (tgt := 64) hx hb d_Model_lay_28 (by decide) (by omega) (by omega) (fun c28 => ?_) (fun c28 => ?_)
      · exact hv_vret hQ hx hb hr hZ hS hP hlocks d_Model_lay_64 (⟨rfl, g, hM, fun i hi => hj i (by omega), ho⟩)
      · refine lv_aload_n hx hb d_Model_lay_31 rfl (lv_at hl 0 rfl) ?_
        have h13 : z (K 0) = some (.inr (7, [.int A.thrown, .ref (K 1), .ref (K 2), .ref (K 3), .ref (K 4), .ref (K 5), .ref (K 6), .ref (K 7), .ref (K 8), .ref (K 9), .ref (K 10), .ref (K 11), .ref (K 12), .int (nI A.tapeSize), .ref (K 13), .int A.error, .int A.off, .int A.inside, .int (nI A.changes), .int (nI A.earlier), .int (nI A.logged), .int A.over, .int (nI A.loose), .int A.written, .int (nI A.due)])) := hM.1.2 0 (by decide)
        refine va_get (D := D) (ci := 7) (v := .ref (K 11)) (C := R_Model) (T := F_Model) (N := 25) hx hb hts i_Model hown hK (hv_one hP h13) 0 rfl rfl 11 (by decide) (hts _ k_Model_42) (fun _ h9 => h9) rfl d_Model_lay_32 ?_
        refine lv_iconst (v := 3) hx hb d_Model_lay_35 (by decide) ?_
        refine lv_iload_n hx hb d_Model_lay_36 rfl (lv_at hl 1 rfl) ?_
        refine gk_imul (x := 3) (y := q) hx hb d_Model_lay_37 ?_
        refine lv_iload hx hb d_Model_lay_38 (lv_at hl 5 rfl) ?_
        refine gk_iadd (x := 3 * q) (y := k) hx hb d_Model_lay_40 ?_
        refine lv_iload_n hx hb d_Model_lay_41 rfl (lv_at hl 3 rfl) ?_
        refine lv_iconst (v := 3) hx hb d_Model_lay_42 (by decide) ?_
        refine lv_icmp_ne (tgt := 56) hx hb d_Model_lay_43 (by decide) (fun c43 => ?_) (fun c43 => ?_)
        · refine lv_lconst (v := 0) hx hb d_Model_lay_56 (by decide) ?_
          have h14 : z (K 11) = some (.inl (ca 3, 11520, .inr (.inl g))) := hM.1.2 11 (by decide)
          refine hv_last hx hb hK hP hS 3 h14 rfl (vp_in_nI (n := (3 * q) + k) (by omega) (by omega)) d_Model_lay_57 (fun H locs hP hS => ?_)
          rw [nI_clamp (n := (3 * q) + k) (by omega)] at hP
          obtain ⟨w15, ew15⟩ : ∃ z9 : hv_W, z9 = va_up z (K 11) (some (.inl (ca 3, 11520, .inr (.inl (vp_updL g ((3 * q) + k) 0))))) := ⟨_, rfl⟩
          have hP : hv_P D classes s0.heap.size w15 H := by rw [ew15]; exact hP
          have hM : mK ca K w0 A ((((B.sKeys (upd B.keys q y)).sKinds (upd B.kinds q kd)).sValues (vp_updL B.values q x)).sTexts (vp_updL g ((3 * q) + k) 0)) w15 := by rw [ew15]; exact hM.put 11 (by decide) rfl
          have h16 : w15 (K 11) = some (.inl (ca 3, 11520, .inr (.inl (vp_updL g ((3 * q) + k) 0)))) := by rw [ew15]; exact hv_up_s
          refine lv_iinc (v := (nI (k + 1))) (lv' := [(6, .int ((nI (k + 1)))), (0, .ref (K 0)), (1, .int (nI q)), (2, .int y), (3, .int kd), (4, .long x)]) hx hb d_Model_lay_58 hl (k := 5) rfl (nI_add k 1) (by decide) rfl (fun ls hl => ?_)
          refine lv_goto (tgt := 25) hx hb d_Model_lay_61 (by decide) ?_
          exact ihlp (k + 1) (vp_updL g ((3 * q) + k) 0) w15 (by omega) (by omega) hM (fun i hi => (Classical.em (i = k)).elim (fun z => by subst z; rw [m_uLs, if_neg c43]) (fun z => (m_uLn (by omega)).trans (hj i (by omega)))) (fun i hi => (m_uLn (by omega)).trans (ho i hi)) _ _ _ hP hS (lv_sub hl [1, 2, 3, 4, 5, 0] rfl)
        · refine lv_aload_n hx hb d_Model_lay_46 rfl (lv_at hl 0 rfl) ?_
          refine va_get (D := D) (ci := 7) (v := .ref (K 13)) (C := R_Model) (T := F_Model) (N := 25) hx hb hts i_Model hown hK (hv_one hP h13) 0 rfl rfl 14 (by decide) (hts _ k_Model_48) (fun _ h9 => h9) rfl d_Model_lay_47 ?_
          refine lv_iload hx hb d_Model_lay_50 (lv_at hl 5 rfl) ?_
          have h17 : z (K 13) = some (.inl (ca 3, 3, .inr (.inl A.tape))) := hM.1.2 13 (by decide)
          refine va_lald hx hb hK (hv_one hP h17) 0 3 rfl rfl (vp_in_nI (n := k) (by omega) (by omega)) d_Model_lay_52 ?_
          rw [nI_clamp (n := k) (by omega)]
          refine lv_goto (tgt := 57) hx hb d_Model_lay_53 (by decide) ?_
          have h18 : z (K 11) = some (.inl (ca 3, 11520, .inr (.inl g))) := hM.1.2 11 (by decide)
          refine hv_last hx hb hK hP hS 3 h18 rfl (vp_in_nI (n := (3 * q) + k) (by omega) (by omega)) d_Model_lay_57 (fun H locs hP hS => ?_)
          rw [nI_clamp (n := (3 * q) + k) (by omega)] at hP
          obtain ⟨w19, ew19⟩ : ∃ z9 : hv_W, z9 = va_up z (K 11) (some (.inl (ca 3, 11520, .inr (.inl (vp_updL g ((3 * q) + k) (A.tape k)))))) := ⟨_, rfl⟩
          have hP : hv_P D classes s0.heap.size w19 H := by rw [ew19]; exact hP
          have hM : mK ca K w0 A ((((B.sKeys (upd B.keys q y)).sKinds (upd B.kinds q kd)).sValues (vp_updL B.values q x)).sTexts (vp_updL g ((3 * q) + k) (A.tape k))) w19 := by rw [ew19]; exact hM.put 11 (by decide) rfl
          have h20 : w19 (K 11) = some (.inl (ca 3, 11520, .inr (.inl (vp_updL g ((3 * q) + k) (A.tape k))))) := by rw [ew19]; exact hv_up_s
          refine lv_iinc (v := (nI (k + 1))) (lv' := [(6, .int ((nI (k + 1)))), (0, .ref (K 0)), (1, .int (nI q)), (2, .int y), (3, .int kd), (4, .long x)]) hx hb d_Model_lay_58 hl (k := 5) rfl (nI_add k 1) (by decide) rfl (fun ls hl => ?_)
          refine lv_goto (tgt := 25) hx hb d_Model_lay_61 (by decide) ?_
          exact ihlp (k + 1) (vp_updL g ((3 * q) + k) (A.tape k)) w19 (by omega) (by omega) hM (fun i hi => (Classical.em (i = k)).elim (fun z => by subst z; rw [m_uLs, if_pos c43]) (fun z => (m_uLn (by omega)).trans (hj i (by omega)))) (fun i hi => (m_uLn (by omega)).trans (ho i hi)) _ _ _ hP hS (lv_sub hl [1, 2, 3, 4, 5, 0] rfl)
  exact lp _ 0 B.texts w11 (Nat.lt_succ_self _) (Nat.zero_le _) hM (fun j q => absurd q (Nat.not_lt_zero _)) (fun _ _ => rfl) _ _ _ hP hS (lv_sub hl [1, 2, 3, 4, 5, 0] rfl)

abbrev rm_Model_dropProperty : Room := { frames := 0, cells := 0, slots := 0, locals := 0 }
set_option maxHeartbeats 4000000 in
set_option maxRecDepth 100000 in
theorem c_Model_dropProperty {l : Launch} {s0 : State} {D : va_G} {ca : Nat → ClassId} (C : hv_C l s0 D (hv_tys ca)) {w : hv_W} {K : Nat → Nat} {w0 : hv_W} {A : mA} {B : mB} {j q n : Nat} (hj0 : j < 640) (hM : mK ca K w0 A B w) (hn0 : B.propertyMany j = nI n) (hn1 : 1 ≤ n) (hn6 : n ≤ 6) (hq1 : 6 * j ≤ q) (hq2 : q < 6 * j + n)  :
    hv_Met l y_Model_dropProperty [.code y_Model_dropProperty b_Model_dropProperty 5 none] rm_Model_dropProperty (hv_Pc s0 D w [.ref (K 0), .int (nI j), .int (nI q)]) (hv_Q s0 D (fun v w' => v = none ∧ ∃ g1 g2 g3 g4, mK ca K w0 A (((((B.sKeys g1).sKinds g2).sValues g3).sTexts g4).sPropertyMany (upd B.propertyMany j (nI (n - 1)))) w' ∧ (∀ m9, g1 m9 = if q ≤ m9 ∧ m9 < 6 * j + n - 1 then B.keys (m9 + 1) else B.keys m9) ∧ (∀ m9, g2 m9 = if q ≤ m9 ∧ m9 < 6 * j + n - 1 then B.kinds (m9 + 1) else B.kinds m9) ∧ (∀ m9, g3 m9 = if q ≤ m9 ∧ m9 < 6 * j + n - 1 then B.values (m9 + 1) else B.values m9) ∧ ∀ m9, g4 m9 = if 3 * q ≤ m9 ∧ m9 < 3 * (6 * j + n - 1) then B.texts (m9 + 3) else B.texts m9) (fun _ _ => False)) 0 0 (hv_A s0.heap.size) := by
  refine hv_enter C _ (by decide) (Nat.le_of_ble_eq_true rfl) ?_
  intro p e s m below meth c ls Q hQ hx hb hr hml hown hts hK hZ hlocks hname hout htr hP hl
  have hown : s.vm.findClass R_Model = some m.cls := hown
  have hS : va_S (hv_A s0.heap.size) s.heap s.heap [] := va_S.rf
  have hl : lv_has ls 5 [(0, .ref (K 0)), (1, .int (nI j)), (2, .int (nI q))] := hl
  refine lv_iload_n hx hb d_Model_dropProperty_0 rfl (lv_at hl 2 rfl) ?_
  refine lv_istore_n (lv' := [(3, .int (nI q)), (0, .ref (K 0)), (1, .int (nI j)), (2, .int (nI q))]) hx hb d_Model_dropProperty_1 rfl hl (by decide) rfl (fun ls hl => ?_)
  have lp : ∀ (n9lp : Nat) (k : Nat) (g1 g2 : Nat → Int32) (g3 g4 : Nat → Int64) (z : hv_W), 6 * j + n - 1 - k < n9lp → (q ≤ k) → (k ≤ 6 * j + n - 1) → (mK ca K w0 A ((((B.sKeys g1).sKinds g2).sValues g3).sTexts g4) z) → (∀ m9, g1 m9 = if q ≤ m9 ∧ m9 < k then B.keys (m9 + 1) else B.keys m9) → (∀ m9, g2 m9 = if q ≤ m9 ∧ m9 < k then B.kinds (m9 + 1) else B.kinds m9) → (∀ m9, g3 m9 = if q ≤ m9 ∧ m9 < k then B.values (m9 + 1) else B.values m9) → (∀ m9, g4 m9 = if 3 * q ≤ m9 ∧ m9 < 3 * k then B.texts (m9 + 3) else B.texts m9) → ∀ (H : Heap) (locs : List Loc) (ls : Array Slot), hv_P D classes s0.heap.size z H → va_S (hv_A s0.heap.size) s.heap H locs → lv_has ls 5 [(0, .ref (K 0)), (1, .int (nI j)), (2, .int (nI q)), (3, .int (nI k))] → W p l e rm_Model_dropProperty s m ([.ref (K 0), .int (nI j), .int (nI q)] : List Value).toArray below meth c H locs 0 0 Q (F0 m 2 ls []) := by
    intro n9lp
    induction n9lp with
    | zero =>
      intro k g1 g2 g3 g4 z hn9lp
      exact absurd hn9lp (Nat.not_lt_zero _)
    | succ n9lp ihlp =>
      intro k g1 g2 g3 g4 z hn9lp hk1 hk2 hM s1 s2 s3 s4 H locs ls hP hS hl
      refine lv_iload_n hx hb d_Model_dropProperty_2 rfl (lv_at hl 3 rfl) ?_
      refine lv_bipush (v := 6) hx hb d_Model_dropProperty_3 (by decide) ?_
      refine lv_iload_n hx hb d_Model_dropProperty_5 rfl (lv_at hl 1 rfl) ?_
      refine gk_imul (x := 6) (y := j) hx hb d_Model_dropProperty_6 ?_
      refine lv_aload_n hx hb d_Model_dropProperty_7 rfl (lv_at hl 0 rfl) ?_
      have h1 : z (K 0) = some (.inr (7, [.int A.thrown, .ref (K 1), .ref (K 2), .ref (K 3), .ref (K 4), .ref (K 5), .ref (K 6), .ref (K 7), .ref (K 8), .ref (K 9), .ref (K 10), .ref (K 11), .ref (K 12), .int (nI A.tapeSize), .ref (K 13), .int A.error, .int A.off, .int A.inside, .int (nI A.changes), .int (nI A.earlier), .int (nI A.logged), .int A.over, .int (nI A.loose), .int A.written, .int (nI A.due)])) := hM.1.2 0 (by decide)
      refine va_get (D := D) (ci := 7) (v := .ref (K 7)) (C := R_Model) (T := F_Model) (N := 25) hx hb hts i_Model hown hK (hv_one hP h1) 0 rfl rfl 7 (by decide) (hts _ k_Model_29) (fun _ h9 => h9) rfl d_Model_dropProperty_8 ?_
      refine lv_iload_n hx hb d_Model_dropProperty_11 rfl (lv_at hl 1 rfl) ?_
      have h2 : z (K 7) = some (.inl (ca 0, 640, .inl B.propertyMany)) := hM.1.2 7 (by decide)
      refine va_iald hx hb hK (hv_one hP h2) 0 0 rfl rfl (vp_in_nI (n := j) (by omega) (by omega)) d_Model_dropProperty_12 ?_
      rw [nI_clamp (n := j) (by omega)]
      refine lv_topi (fun v9 e9 => ?_)
      have e9 : v9 = nI n := e9.trans (hn0)
      subst e9
      show W _ _ _ _ _ _ _ _ _ _ _ _ _ _ _ (F0 m 13 ls [.int (nI n), .int (nI (6 * j)), .int (nI k)])
      refine gk_iadd (x := 6 * j) (y := n) hx hb d_Model_dropProperty_13 ?_
      refine lv_iconst (v := 1) hx hb d_Model_dropProperty_14 (by decide) ?_
      refine gk_isub (x := (6 * j) + n) (y := 1) hx hb d_Model_dropProperty_15 (by omega) ?_
      refine gk_icmp_ge (x := k) (y := ((6 * j) + n) - 1) (tgt := 106) hx hb d_Model_dropProperty_16 (by decide) (by omega) (by omega) (fun c16 => ?_) (fun c16 => ?_)
      · refine lv_aload_n hx hb d_Model_dropProperty_106 rfl (lv_at hl 0 rfl) ?_
        refine va_get (D := D) (ci := 7) (v := .ref (K 7)) (C := R_Model) (T := F_Model) (N := 25) hx hb hts i_Model hown hK (hv_one hP h1) 0 rfl rfl 7 (by decide) (hts _ k_Model_29) (fun _ h9 => h9) rfl d_Model_dropProperty_107 ?_
        refine lv_iload_n hx hb d_Model_dropProperty_110 rfl (lv_at hl 1 rfl) ?_
        refine lv_dup2_11 hx hb d_Model_dropProperty_111 rfl rfl ?_
        refine va_iald hx hb hK (hv_one hP h2) 0 0 rfl rfl (vp_in_nI (n := j) (by omega) (by omega)) d_Model_dropProperty_112 ?_
        rw [nI_clamp (n := j) (by omega)]
        refine lv_topi (fun v9 e9 => ?_)
        have e9 : v9 = nI n := e9.trans (hn0)
        subst e9
        show W _ _ _ _ _ _ _ _ _ _ _ _ _ _ _ (F0 m 113 ls [.int (nI n), .int (nI j), .ref (K 7)])
        refine lv_iconst (v := 1) hx hb d_Model_dropProperty_113 (by decide) ?_
        refine gk_isub (x := n) (y := 1) hx hb d_Model_dropProperty_114 (by omega) ?_
        refine hv_iast hx hb hK hP hS 0 h2 rfl (vp_in_nI (n := j) (by omega) (by omega)) d_Model_dropProperty_115 (fun H locs hP hS => ?_)
        rw [nI_clamp (n := j) (by omega)] at hP
        obtain ⟨w3, ew3⟩ : ∃ z9 : hv_W, z9 = va_up z (K 7) (some (.inl (ca 0, 640, .inl (upd B.propertyMany j ((nI (n - 1))))))) := ⟨_, rfl⟩
        have hP : hv_P D classes s0.heap.size w3 H := by rw [ew3]; exact hP
        have hM : mK ca K w0 A (((((B.sKeys g1).sKinds g2).sValues g3).sTexts g4).sPropertyMany (upd B.propertyMany j ((nI (n - 1))))) w3 := by rw [ew3]; exact hM.put 7 (by decide) rfl
        have h4 : w3 (K 7) = some (.inl (ca 0, 640, .inl (upd B.propertyMany j ((nI (n - 1)))))) := by rw [ew3]; exact hv_up_s
        exact hv_vret hQ hx hb hr hZ hS hP hlocks d_Model_dropProperty_116 (⟨rfl, g1, g2, g3, g4, hM, by rw [show 6 * j + n - 1 = k by omega]; exact s1, by rw [show 6 * j + n - 1 = k by omega]; exact s2, by rw [show 6 * j + n - 1 = k by omega]; exact s3, by rw [show 6 * j + n - 1 = k by omega]; exact s4⟩)
      · refine lv_aload_n hx hb d_Model_dropProperty_19 rfl (lv_at hl 0 rfl) ?_
        refine va_get (D := D) (ci := 7) (v := .ref (K 8)) (C := R_Model) (T := F_Model) (N := 25) hx hb hts i_Model hown hK (hv_one hP h1) 0 rfl rfl 8 (by decide) (hts _ k_Model_32) (fun _ h9 => h9) rfl d_Model_dropProperty_20 ?_
        refine lv_iload_n hx hb d_Model_dropProperty_23 rfl (lv_at hl 3 rfl) ?_
        refine lv_aload_n hx hb d_Model_dropProperty_24 rfl (lv_at hl 0 rfl) ?_
        refine va_get (D := D) (ci := 7) (v := .ref (K 8)) (C := R_Model) (T := F_Model) (N := 25) hx hb hts i_Model hown hK (hv_one hP h1) 0 rfl rfl 8 (by decide) (hts _ k_Model_32) (fun _ h9 => h9) rfl d_Model_dropProperty_25 ?_
        refine lv_iload_n hx hb d_Model_dropProperty_28 rfl (lv_at hl 3 rfl) ?_
        refine lv_iconst (v := 1) hx hb d_Model_dropProperty_29 (by decide) ?_
        refine gk_iadd (x := k) (y := 1) hx hb d_Model_dropProperty_30 ?_
        have h5 : z (K 8) = some (.inl (ca 0, 3840, .inl g1)) := hM.1.2 8 (by decide)
        refine va_iald hx hb hK (hv_one hP h5) 0 0 rfl rfl (vp_in_nI (n := k + 1) (by omega) (by omega)) d_Model_dropProperty_31 ?_
        rw [nI_clamp (n := k + 1) (by omega)]
        refine hv_iast hx hb hK hP hS 0 h5 rfl (vp_in_nI (n := k) (by omega) (by omega)) d_Model_dropProperty_32 (fun H locs hP hS => ?_)
        rw [nI_clamp (n := k) (by omega)] at hP
        obtain ⟨w6, ew6⟩ : ∃ z9 : hv_W, z9 = va_up z (K 8) (some (.inl (ca 0, 3840, .inl (upd g1 k ((g1 (k + 1))))))) := ⟨_, rfl⟩
        have hP : hv_P D classes s0.heap.size w6 H := by rw [ew6]; exact hP
        have hM : mK ca K w0 A ((((B.sKinds g2).sValues g3).sTexts g4).sKeys (upd g1 k ((g1 (k + 1))))) w6 := by rw [ew6]; exact hM.put 8 (by decide) rfl
        have h7 : w6 (K 8) = some (.inl (ca 0, 3840, .inl (upd g1 k ((g1 (k + 1)))))) := by rw [ew6]; exact hv_up_s
        refine lv_aload_n hx hb d_Model_dropProperty_33 rfl (lv_at hl 0 rfl) ?_
        have h8 : w6 (K 0) = some (.inr (7, [.int A.thrown, .ref (K 1), .ref (K 2), .ref (K 3), .ref (K 4), .ref (K 5), .ref (K 6), .ref (K 7), .ref (K 8), .ref (K 9), .ref (K 10), .ref (K 11), .ref (K 12), .int (nI A.tapeSize), .ref (K 13), .int A.error, .int A.off, .int A.inside, .int (nI A.changes), .int (nI A.earlier), .int (nI A.logged), .int A.over, .int (nI A.loose), .int A.written, .int (nI A.due)])) := hM.1.2 0 (by decide)
        refine va_get (D := D) (ci := 7) (v := .ref (K 9)) (C := R_Model) (T := F_Model) (N := 25) hx hb hts i_Model hown hK (hv_one hP h8) 0 rfl rfl 9 (by decide) (hts _ k_Model_35) (fun _ h9 => h9) rfl d_Model_dropProperty_34 ?_
        refine lv_iload_n hx hb d_Model_dropProperty_37 rfl (lv_at hl 3 rfl) ?_
        refine lv_aload_n hx hb d_Model_dropProperty_38 rfl (lv_at hl 0 rfl) ?_
        refine va_get (D := D) (ci := 7) (v := .ref (K 9)) (C := R_Model) (T := F_Model) (N := 25) hx hb hts i_Model hown hK (hv_one hP h8) 0 rfl rfl 9 (by decide) (hts _ k_Model_35) (fun _ h9 => h9) rfl d_Model_dropProperty_39 ?_
        refine lv_iload_n hx hb d_Model_dropProperty_42 rfl (lv_at hl 3 rfl) ?_
        refine lv_iconst (v := 1) hx hb d_Model_dropProperty_43 (by decide) ?_
        refine gk_iadd (x := k) (y := 1) hx hb d_Model_dropProperty_44 ?_
        have h9 : w6 (K 9) = some (.inl (ca 0, 3840, .inl g2)) := hM.1.2 9 (by decide)
        refine va_iald hx hb hK (hv_one hP h9) 0 0 rfl rfl (vp_in_nI (n := k + 1) (by omega) (by omega)) d_Model_dropProperty_45 ?_
        rw [nI_clamp (n := k + 1) (by omega)]
        refine hv_iast hx hb hK hP hS 0 h9 rfl (vp_in_nI (n := k) (by omega) (by omega)) d_Model_dropProperty_46 (fun H locs hP hS => ?_)
        rw [nI_clamp (n := k) (by omega)] at hP
        obtain ⟨w10, ew10⟩ : ∃ z9 : hv_W, z9 = va_up w6 (K 9) (some (.inl (ca 0, 3840, .inl (upd g2 k ((g2 (k + 1))))))) := ⟨_, rfl⟩
        have hP : hv_P D classes s0.heap.size w10 H := by rw [ew10]; exact hP
        have hM : mK ca K w0 A ((((B.sValues g3).sTexts g4).sKeys (upd g1 k ((g1 (k + 1))))).sKinds (upd g2 k ((g2 (k + 1))))) w10 := by rw [ew10]; exact hM.put 9 (by decide) rfl
        have h11 : w10 (K 9) = some (.inl (ca 0, 3840, .inl (upd g2 k ((g2 (k + 1)))))) := by rw [ew10]; exact hv_up_s
        refine lv_aload_n hx hb d_Model_dropProperty_47 rfl (lv_at hl 0 rfl) ?_
        have h12 : w10 (K 0) = some (.inr (7, [.int A.thrown, .ref (K 1), .ref (K 2), .ref (K 3), .ref (K 4), .ref (K 5), .ref (K 6), .ref (K 7), .ref (K 8), .ref (K 9), .ref (K 10), .ref (K 11), .ref (K 12), .int (nI A.tapeSize), .ref (K 13), .int A.error, .int A.off, .int A.inside, .int (nI A.changes), .int (nI A.earlier), .int (nI A.logged), .int A.over, .int (nI A.loose), .int A.written, .int (nI A.due)])) := hM.1.2 0 (by decide)
        refine va_get (D := D) (ci := 7) (v := .ref (K 10)) (C := R_Model) (T := F_Model) (N := 25) hx hb hts i_Model hown hK (hv_one hP h12) 0 rfl rfl 10 (by decide) (hts _ k_Model_38) (fun _ h9 => h9) rfl d_Model_dropProperty_48 ?_
        refine lv_iload_n hx hb d_Model_dropProperty_51 rfl (lv_at hl 3 rfl) ?_
        refine lv_aload_n hx hb d_Model_dropProperty_52 rfl (lv_at hl 0 rfl) ?_
        refine va_get (D := D) (ci := 7) (v := .ref (K 10)) (C := R_Model) (T := F_Model) (N := 25) hx hb hts i_Model hown hK (hv_one hP h12) 0 rfl rfl 10 (by decide) (hts _ k_Model_38) (fun _ h9 => h9) rfl d_Model_dropProperty_53 ?_
        refine lv_iload_n hx hb d_Model_dropProperty_56 rfl (lv_at hl 3 rfl) ?_
        refine lv_iconst (v := 1) hx hb d_Model_dropProperty_57 (by decide) ?_
        refine gk_iadd (x := k) (y := 1) hx hb d_Model_dropProperty_58 ?_
        have h13 : w10 (K 10) = some (.inl (ca 3, 3840, .inr (.inl g3))) := hM.1.2 10 (by decide)
        refine va_lald hx hb hK (hv_one hP h13) 0 3 rfl rfl (vp_in_nI (n := k + 1) (by omega) (by omega)) d_Model_dropProperty_59 ?_
        rw [nI_clamp (n := k + 1) (by omega)]
        refine hv_last hx hb hK hP hS 3 h13 rfl (vp_in_nI (n := k) (by omega) (by omega)) d_Model_dropProperty_60 (fun H locs hP hS => ?_)
        rw [nI_clamp (n := k) (by omega)] at hP
        obtain ⟨w14, ew14⟩ : ∃ z9 : hv_W, z9 = va_up w10 (K 10) (some (.inl (ca 3, 3840, .inr (.inl (vp_updL g3 k (g3 (k + 1))))))) := ⟨_, rfl⟩
        have hP : hv_P D classes s0.heap.size w14 H := by rw [ew14]; exact hP
        have hM : mK ca K w0 A ((((B.sTexts g4).sKeys (upd g1 k ((g1 (k + 1))))).sKinds (upd g2 k ((g2 (k + 1))))).sValues (vp_updL g3 k (g3 (k + 1)))) w14 := by rw [ew14]; exact hM.put 10 (by decide) rfl
        have h15 : w14 (K 10) = some (.inl (ca 3, 3840, .inr (.inl (vp_updL g3 k (g3 (k + 1)))))) := by rw [ew14]; exact hv_up_s
        refine lv_iconst (v := 0) hx hb d_Model_dropProperty_61 (by decide) ?_
        refine lv_istore (lv' := [(4, .int 0), (0, .ref (K 0)), (1, .int (nI j)), (2, .int (nI q)), (3, .int (nI k))]) hx hb d_Model_dropProperty_62 hl (by decide) rfl (fun ls hl => ?_)
        have lq : ∀ (n9lq : Nat) (i : Nat) (t4 : Nat → Int64) (z2 : hv_W), 3 - i < n9lq → (i ≤ 3) → (mK ca K w0 A ((((B.sKeys (upd g1 k ((g1 (k + 1))))).sKinds (upd g2 k ((g2 (k + 1))))).sValues (vp_updL g3 k (g3 (k + 1)))).sTexts t4) z2) → (∀ m9, t4 m9 = if 3 * q ≤ m9 ∧ m9 < 3 * k + i then B.texts (m9 + 3) else B.texts m9) → ∀ (H : Heap) (locs : List Loc) (ls : Array Slot), hv_P D classes s0.heap.size z2 H → va_S (hv_A s0.heap.size) s.heap H locs → lv_has ls 5 [(0, .ref (K 0)), (1, .int (nI j)), (2, .int (nI q)), (3, .int (nI k)), (4, .int (nI i))] → W p l e rm_Model_dropProperty s m ([.ref (K 0), .int (nI j), .int (nI q)] : List Value).toArray below meth c H locs 0 0 Q (F0 m 64 ls []) := by
          intro n9lq
          induction n9lq with
          | zero =>
            intro i t4 z2 hn9lq
            exact absurd hn9lq (Nat.not_lt_zero _)
          | succ n9lq ihlq =>
            intro i t4 z2 hn9lq hi hM s5 H locs ls hP hS hl
            refine lv_iload hx hb d_Model_dropProperty_64 (lv_at hl 4 rfl) ?_
            refine lv_iconst (v := 3) hx hb d_Model_dropProperty_66 (by decide) ?_
            refine gk_icmp_ge (x := i) (y := 3) (tgt := 100) hx hb d_Model_dropProperty_67 (by decide) (by omega) (by omega) (fun c67 => ?_) (fun c67 => ?_)
            · refine lv_iinc (v := (nI (k + 1))) (lv' := [(3, .int ((nI (k + 1)))), (0, .ref (K 0)), (1, .int (nI j)), (2, .int (nI q)), (4, .int (nI i))]) hx hb d_Model_dropProperty_100 hl (k := 3) rfl (nI_add k 1) (by decide) rfl (fun ls hl => ?_)
              refine lv_goto (tgt := 2) hx hb d_Model_dropProperty_103 (by decide) ?_
              exact ihlp (k + 1) (upd g1 k ((g1 (k + 1)))) (upd g2 k ((g2 (k + 1)))) (vp_updL g3 k (g3 (k + 1))) t4 z2 (by omega) (by omega) (by omega) hM (m_sh pk_us (fun _ h9 => pk_un h9) s1 (by omega)) (m_sh pk_us (fun _ h9 => pk_un h9) s2 (by omega)) (m_sh m_uLs (fun _ h9 => m_uLn h9) s3 (by omega)) (by rw [show 3 * (k + 1) = 3 * k + i by omega]; exact s5) _ _ _ hP hS (lv_sub hl [1, 2, 3, 0] rfl)
            · refine lv_aload_n hx hb d_Model_dropProperty_70 rfl (lv_at hl 0 rfl) ?_
              have h16 : z2 (K 0) = some (.inr (7, [.int A.thrown, .ref (K 1), .ref (K 2), .ref (K 3), .ref (K 4), .ref (K 5), .ref (K 6), .ref (K 7), .ref (K 8), .ref (K 9), .ref (K 10), .ref (K 11), .ref (K 12), .int (nI A.tapeSize), .ref (K 13), .int A.error, .int A.off, .int A.inside, .int (nI A.changes), .int (nI A.earlier), .int (nI A.logged), .int A.over, .int (nI A.loose), .int A.written, .int (nI A.due)])) := hM.1.2 0 (by decide)
              refine va_get (D := D) (ci := 7) (v := .ref (K 11)) (C := R_Model) (T := F_Model) (N := 25) hx hb hts i_Model hown hK (hv_one hP h16) 0 rfl rfl 11 (by decide) (hts _ k_Model_42) (fun _ h9 => h9) rfl d_Model_dropProperty_71 ?_
              refine lv_iconst (v := 3) hx hb d_Model_dropProperty_74 (by decide) ?_
              refine lv_iload_n hx hb d_Model_dropProperty_75 rfl (lv_at hl 3 rfl) ?_
              refine gk_imul (x := 3) (y := k) hx hb d_Model_dropProperty_76 ?_
              refine lv_iload hx hb d_Model_dropProperty_77 (lv_at hl 4 rfl) ?_
              refine gk_iadd (x := 3 * k) (y := i) hx hb d_Model_dropProperty_79 ?_
              refine lv_aload_n hx hb d_Model_dropProperty_80 rfl (lv_at hl 0 rfl) ?_
              refine va_get (D := D) (ci := 7) (v := .ref (K 11)) (C := R_Model) (T := F_Model) (N := 25) hx hb hts i_Model hown hK (hv_one hP h16) 0 rfl rfl 11 (by decide) (hts _ k_Model_42) (fun _ h9 => h9) rfl d_Model_dropProperty_81 ?_
              refine lv_iconst (v := 3) hx hb d_Model_dropProperty_84 (by decide) ?_
              refine lv_iload_n hx hb d_Model_dropProperty_85 rfl (lv_at hl 3 rfl) ?_
              refine gk_imul (x := 3) (y := k) hx hb d_Model_dropProperty_86 ?_
              refine lv_iconst (v := 3) hx hb d_Model_dropProperty_87 (by decide) ?_
              refine gk_iadd (x := 3 * k) (y := 3) hx hb d_Model_dropProperty_88 ?_
              refine lv_iload hx hb d_Model_dropProperty_89 (lv_at hl 4 rfl) ?_
              refine gk_iadd (x := (3 * k) + 3) (y := i) hx hb d_Model_dropProperty_91 ?_
              have h17 : z2 (K 11) = some (.inl (ca 3, 11520, .inr (.inl t4))) := hM.1.2 11 (by decide)
              refine va_lald hx hb hK (hv_one hP h17) 0 3 rfl rfl (vp_in_nI (n := ((3 * k) + 3) + i) (by omega) (by omega)) d_Model_dropProperty_92 ?_
              rw [nI_clamp (n := ((3 * k) + 3) + i) (by omega)]
              refine hv_last hx hb hK hP hS 3 h17 rfl (vp_in_nI (n := (3 * k) + i) (by omega) (by omega)) d_Model_dropProperty_93 (fun H locs hP hS => ?_)
              rw [nI_clamp (n := (3 * k) + i) (by omega)] at hP
              obtain ⟨w18, ew18⟩ : ∃ z9 : hv_W, z9 = va_up z2 (K 11) (some (.inl (ca 3, 11520, .inr (.inl (vp_updL t4 ((3 * k) + i) (t4 (((3 * k) + 3) + i))))))) := ⟨_, rfl⟩
              have hP : hv_P D classes s0.heap.size w18 H := by rw [ew18]; exact hP
              have hM : mK ca K w0 A ((((B.sKeys (upd g1 k ((g1 (k + 1))))).sKinds (upd g2 k ((g2 (k + 1))))).sValues (vp_updL g3 k (g3 (k + 1)))).sTexts (vp_updL t4 ((3 * k) + i) (t4 (((3 * k) + 3) + i)))) w18 := by rw [ew18]; exact hM.put 11 (by decide) rfl
              have h19 : w18 (K 11) = some (.inl (ca 3, 11520, .inr (.inl (vp_updL t4 ((3 * k) + i) (t4 (((3 * k) + 3) + i)))))) := by rw [ew18]; exact hv_up_s
              refine lv_iinc (v := (nI (i + 1))) (lv' := [(4, .int ((nI (i + 1)))), (0, .ref (K 0)), (1, .int (nI j)), (2, .int (nI q)), (3, .int (nI k))]) hx hb d_Model_dropProperty_94 hl (k := 4) rfl (nI_add i 1) (by decide) rfl (fun ls hl => ?_)
              refine lv_goto (tgt := 64) hx hb d_Model_dropProperty_97 (by decide) ?_
              exact ihlq (i + 1) (vp_updL t4 ((3 * k) + i) (t4 (((3 * k) + 3) + i))) w18 (by omega) (by omega) hM (m_sh3 (k := 3 * k + i) (by rw [m_uLs, show 3 * k + 3 + i = 3 * k + i + 3 by omega]) (fun _ h9 => m_uLn h9) s5 (by omega)) _ _ _ hP hS (lv_sub hl [1, 2, 3, 4, 0] rfl)
        exact lq _ 0 g4 w14 (Nat.lt_succ_self _) (Nat.zero_le _) hM s4 _ _ _ hP hS (lv_sub hl [1, 2, 3, 4, 0] rfl)
  exact lp _ q B.keys B.kinds B.values B.texts w (Nat.lt_succ_self _) (Nat.le_refl _) (by omega) hM (fun m9 => by rw [if_neg (by omega)]) (fun m9 => by rw [if_neg (by omega)]) (fun m9 => by rw [if_neg (by omega)]) (fun m9 => by rw [if_neg (by omega)]) _ _ _ hP hS (lv_sub hl [1, 2, 3, 0] rfl)

