abbrev rm_Model_copyThing : Room := { frames := 0, cells := 0, slots := 0, locals := 0 }
set_option maxHeartbeats 4000000 in
set_option maxRecDepth 100000 in
theorem c_Model_copyThing {l : Launch} {s0 : State} {D : va_G} {ca : Nat → ClassId} (C : hv_C l s0 D (hv_tys ca)) {w : hv_W} {K : Nat → Nat} {w0 : hv_W} {A : mA} {B : mB} {a b : Nat} (ha : a < 640) (hb8 : b < 640) (hab : a ≠ b) (hM : mK ca K w0 A B w) (hbo : mBo B)  :
    hv_Met l y_Model_copyThing [.code y_Model_copyThing b_Model_copyThing 4 none] rm_Model_copyThing (hv_Pc s0 D w [.ref (K 0), .int (nI a), .int (nI b)]) (hv_Q s0 D (fun v w' => v = none ∧ ∃ B', mK ca K w0 A B' w' ∧ mEq B a B' b ∧ ∀ j, j ≠ b → mEq B j B' j) (fun _ _ => False)) 0 0 (hv_A s0.heap.size) := by
  refine hv_enter C _ (by decide) (Nat.le_of_ble_eq_true rfl) ?_
  intro p e s m below meth c ls Q hQ hx hb hr hml hown hts hK hZ hlocks hname hout htr hP hl
  have hown : s.vm.findClass R_Model = some m.cls := hown
  have hS : va_S (hv_A s0.heap.size) s.heap s.heap [] := va_S.rf
  have hl : lv_has ls 4 [(0, .ref (K 0)), (1, .int (nI a)), (2, .int (nI b))] := hl
  refine lv_aload_n hx hb d_Model_copyThing_0 rfl (lv_at hl 0 rfl) ?_
  have h1 : w (K 0) = some (.inr (7, [.int A.thrown, .ref (K 1), .ref (K 2), .ref (K 3), .ref (K 4), .ref (K 5), .ref (K 6), .ref (K 7), .ref (K 8), .ref (K 9), .ref (K 10), .ref (K 11), .ref (K 12), .int (nI A.tapeSize), .ref (K 13), .int A.error, .int A.off, .int A.inside, .int (nI A.changes), .int (nI A.earlier), .int (nI A.logged), .int A.over, .int (nI A.loose), .int A.written, .int (nI A.due)])) := hM.1.2 0 (by decide)
  refine va_get (D := D) (ci := 7) (v := .ref (K 1)) (C := R_Model) (T := F_Model) (N := 25) hx hb hts i_Model hown hK (hv_one hP h1) 0 rfl rfl 1 (by decide) (hts _ k_Model_7) (fun _ h9 => h9) rfl d_Model_copyThing_1 ?_
  refine lv_iload_n hx hb d_Model_copyThing_4 rfl (lv_at hl 2 rfl) ?_
  refine lv_aload_n hx hb d_Model_copyThing_5 rfl (lv_at hl 0 rfl) ?_
  refine va_get (D := D) (ci := 7) (v := .ref (K 1)) (C := R_Model) (T := F_Model) (N := 25) hx hb hts i_Model hown hK (hv_one hP h1) 0 rfl rfl 1 (by decide) (hts _ k_Model_7) (fun _ h9 => h9) rfl d_Model_copyThing_6 ?_
  refine lv_iload_n hx hb d_Model_copyThing_9 rfl (lv_at hl 1 rfl) ?_
  have h2 : w (K 1) = some (.inl (ca 2, 640, .inl B.there)) := hM.1.2 1 (by decide)
  refine va_zald hx hb hK (hv_one hP h2) 0 2 rfl rfl (vp_in_nI (n := a) (by omega) (by omega)) d_Model_copyThing_10 ?_
  rw [nI_clamp (n := a) (by omega)]
  refine hv_zast hx hb hK hP hS 2 h2 rfl (vp_in_nI (n := b) (by omega) (by omega)) d_Model_copyThing_11 (fun H locs hP hS => ?_)
  rw [nI_clamp (n := b) (by omega)] at hP
  obtain ⟨w3, ew3⟩ : ∃ z9 : hv_W, z9 = va_up w (K 1) (some (.inl (ca 2, 640, .inl (upd B.there b (vp_nar .boolean (B.there a)))))) := ⟨_, rfl⟩
  have hP : hv_P D classes s0.heap.size w3 H := by rw [ew3]; exact hP
  have hM : mK ca K w0 A (B.sThere (upd B.there b (vp_nar .boolean (B.there a)))) w3 := by rw [ew3]; exact hM.put 1 (by decide) rfl
  have h4 : w3 (K 1) = some (.inl (ca 2, 640, .inl (upd B.there b (vp_nar .boolean (B.there a))))) := by rw [ew3]; exact hv_up_s
  refine lv_aload_n hx hb d_Model_copyThing_12 rfl (lv_at hl 0 rfl) ?_
  have h5 : w3 (K 0) = some (.inr (7, [.int A.thrown, .ref (K 1), .ref (K 2), .ref (K 3), .ref (K 4), .ref (K 5), .ref (K 6), .ref (K 7), .ref (K 8), .ref (K 9), .ref (K 10), .ref (K 11), .ref (K 12), .int (nI A.tapeSize), .ref (K 13), .int A.error, .int A.off, .int A.inside, .int (nI A.changes), .int (nI A.earlier), .int (nI A.logged), .int A.over, .int (nI A.loose), .int A.written, .int (nI A.due)])) := hM.1.2 0 (by decide)
  refine va_get (D := D) (ci := 7) (v := .ref (K 2)) (C := R_Model) (T := F_Model) (N := 25) hx hb hts i_Model hown hK (hv_one hP h5) 0 rfl rfl 2 (by decide) (hts _ k_Model_13) (fun _ h9 => h9) rfl d_Model_copyThing_13 ?_
  refine lv_iload_n hx hb d_Model_copyThing_16 rfl (lv_at hl 2 rfl) ?_
  refine lv_aload_n hx hb d_Model_copyThing_17 rfl (lv_at hl 0 rfl) ?_
  refine va_get (D := D) (ci := 7) (v := .ref (K 2)) (C := R_Model) (T := F_Model) (N := 25) hx hb hts i_Model hown hK (hv_one hP h5) 0 rfl rfl 2 (by decide) (hts _ k_Model_13) (fun _ h9 => h9) rfl d_Model_copyThing_18 ?_
  refine lv_iload_n hx hb d_Model_copyThing_21 rfl (lv_at hl 1 rfl) ?_
  have h6 : w3 (K 2) = some (.inl (ca 0, 640, .inl B.starts)) := hM.1.2 2 (by decide)
  refine va_iald hx hb hK (hv_one hP h6) 0 0 rfl rfl (vp_in_nI (n := a) (by omega) (by omega)) d_Model_copyThing_22 ?_
  rw [nI_clamp (n := a) (by omega)]
  refine hv_iast hx hb hK hP hS 0 h6 rfl (vp_in_nI (n := b) (by omega) (by omega)) d_Model_copyThing_23 (fun H locs hP hS => ?_)
  rw [nI_clamp (n := b) (by omega)] at hP
  obtain ⟨w7, ew7⟩ : ∃ z9 : hv_W, z9 = va_up w3 (K 2) (some (.inl (ca 0, 640, .inl (upd B.starts b ((B.starts a)))))) := ⟨_, rfl⟩
  have hP : hv_P D classes s0.heap.size w7 H := by rw [ew7]; exact hP
  have hM : mK ca K w0 A ((B.sThere (upd B.there b (vp_nar .boolean (B.there a)))).sStarts (upd B.starts b ((B.starts a)))) w7 := by rw [ew7]; exact hM.put 2 (by decide) rfl
  have h8 : w7 (K 2) = some (.inl (ca 0, 640, .inl (upd B.starts b ((B.starts a))))) := by rw [ew7]; exact hv_up_s
  refine lv_aload_n hx hb d_Model_copyThing_24 rfl (lv_at hl 0 rfl) ?_
  have h9 : w7 (K 0) = some (.inr (7, [.int A.thrown, .ref (K 1), .ref (K 2), .ref (K 3), .ref (K 4), .ref (K 5), .ref (K 6), .ref (K 7), .ref (K 8), .ref (K 9), .ref (K 10), .ref (K 11), .ref (K 12), .int (nI A.tapeSize), .ref (K 13), .int A.error, .int A.off, .int A.inside, .int (nI A.changes), .int (nI A.earlier), .int (nI A.logged), .int A.over, .int (nI A.loose), .int A.written, .int (nI A.due)])) := hM.1.2 0 (by decide)
  refine va_get (D := D) (ci := 7) (v := .ref (K 3)) (C := R_Model) (T := F_Model) (N := 25) hx hb hts i_Model hown hK (hv_one hP h9) 0 rfl rfl 3 (by decide) (hts _ k_Model_17) (fun _ h9 => h9) rfl d_Model_copyThing_25 ?_
  refine lv_iload_n hx hb d_Model_copyThing_28 rfl (lv_at hl 2 rfl) ?_
  refine lv_aload_n hx hb d_Model_copyThing_29 rfl (lv_at hl 0 rfl) ?_
  refine va_get (D := D) (ci := 7) (v := .ref (K 3)) (C := R_Model) (T := F_Model) (N := 25) hx hb hts i_Model hown hK (hv_one hP h9) 0 rfl rfl 3 (by decide) (hts _ k_Model_17) (fun _ h9 => h9) rfl d_Model_copyThing_30 ?_
  refine lv_iload_n hx hb d_Model_copyThing_33 rfl (lv_at hl 1 rfl) ?_
  have h10 : w7 (K 3) = some (.inl (ca 0, 640, .inl B.ends)) := hM.1.2 3 (by decide)
  refine va_iald hx hb hK (hv_one hP h10) 0 0 rfl rfl (vp_in_nI (n := a) (by omega) (by omega)) d_Model_copyThing_34 ?_
  rw [nI_clamp (n := a) (by omega)]
  refine hv_iast hx hb hK hP hS 0 h10 rfl (vp_in_nI (n := b) (by omega) (by omega)) d_Model_copyThing_35 (fun H locs hP hS => ?_)
  rw [nI_clamp (n := b) (by omega)] at hP
  obtain ⟨w11, ew11⟩ : ∃ z9 : hv_W, z9 = va_up w7 (K 3) (some (.inl (ca 0, 640, .inl (upd B.ends b ((B.ends a)))))) := ⟨_, rfl⟩
  have hP : hv_P D classes s0.heap.size w11 H := by rw [ew11]; exact hP
  have hM : mK ca K w0 A (((B.sThere (upd B.there b (vp_nar .boolean (B.there a)))).sStarts (upd B.starts b ((B.starts a)))).sEnds (upd B.ends b ((B.ends a)))) w11 := by rw [ew11]; exact hM.put 3 (by decide) rfl
  have h12 : w11 (K 3) = some (.inl (ca 0, 640, .inl (upd B.ends b ((B.ends a))))) := by rw [ew11]; exact hv_up_s
  refine lv_aload_n hx hb d_Model_copyThing_36 rfl (lv_at hl 0 rfl) ?_
  have h13 : w11 (K 0) = some (.inr (7, [.int A.thrown, .ref (K 1), .ref (K 2), .ref (K 3), .ref (K 4), .ref (K 5), .ref (K 6), .ref (K 7), .ref (K 8), .ref (K 9), .ref (K 10), .ref (K 11), .ref (K 12), .int (nI A.tapeSize), .ref (K 13), .int A.error, .int A.off, .int A.inside, .int (nI A.changes), .int (nI A.earlier), .int (nI A.logged), .int A.over, .int (nI A.loose), .int A.written, .int (nI A.due)])) := hM.1.2 0 (by decide)
  refine va_get (D := D) (ci := 7) (v := .ref (K 4)) (C := R_Model) (T := F_Model) (N := 25) hx hb hts i_Model hown hK (hv_one hP h13) 0 rfl rfl 4 (by decide) (hts _ k_Model_20) (fun _ h9 => h9) rfl d_Model_copyThing_37 ?_
  refine lv_iload_n hx hb d_Model_copyThing_40 rfl (lv_at hl 2 rfl) ?_
  refine lv_aload_n hx hb d_Model_copyThing_41 rfl (lv_at hl 0 rfl) ?_
  refine va_get (D := D) (ci := 7) (v := .ref (K 4)) (C := R_Model) (T := F_Model) (N := 25) hx hb hts i_Model hown hK (hv_one hP h13) 0 rfl rfl 4 (by decide) (hts _ k_Model_20) (fun _ h9 => h9) rfl d_Model_copyThing_42 ?_
  refine lv_iload_n hx hb d_Model_copyThing_45 rfl (lv_at hl 1 rfl) ?_
  have h14 : w11 (K 4) = some (.inl (ca 0, 640, .inl B.types)) := hM.1.2 4 (by decide)
  refine va_iald hx hb hK (hv_one hP h14) 0 0 rfl rfl (vp_in_nI (n := a) (by omega) (by omega)) d_Model_copyThing_46 ?_
  rw [nI_clamp (n := a) (by omega)]
  refine hv_iast hx hb hK hP hS 0 h14 rfl (vp_in_nI (n := b) (by omega) (by omega)) d_Model_copyThing_47 (fun H locs hP hS => ?_)
  rw [nI_clamp (n := b) (by omega)] at hP
  obtain ⟨w15, ew15⟩ : ∃ z9 : hv_W, z9 = va_up w11 (K 4) (some (.inl (ca 0, 640, .inl (upd B.types b ((B.types a)))))) := ⟨_, rfl⟩
  have hP : hv_P D classes s0.heap.size w15 H := by rw [ew15]; exact hP
  have hM : mK ca K w0 A ((((B.sThere (upd B.there b (vp_nar .boolean (B.there a)))).sStarts (upd B.starts b ((B.starts a)))).sEnds (upd B.ends b ((B.ends a)))).sTypes (upd B.types b ((B.types a)))) w15 := by rw [ew15]; exact hM.put 4 (by decide) rfl
  have h16 : w15 (K 4) = some (.inl (ca 0, 640, .inl (upd B.types b ((B.types a))))) := by rw [ew15]; exact hv_up_s
  refine lv_aload_n hx hb d_Model_copyThing_48 rfl (lv_at hl 0 rfl) ?_
  have h17 : w15 (K 0) = some (.inr (7, [.int A.thrown, .ref (K 1), .ref (K 2), .ref (K 3), .ref (K 4), .ref (K 5), .ref (K 6), .ref (K 7), .ref (K 8), .ref (K 9), .ref (K 10), .ref (K 11), .ref (K 12), .int (nI A.tapeSize), .ref (K 13), .int A.error, .int A.off, .int A.inside, .int (nI A.changes), .int (nI A.earlier), .int (nI A.logged), .int A.over, .int (nI A.loose), .int A.written, .int (nI A.due)])) := hM.1.2 0 (by decide)
  refine va_get (D := D) (ci := 7) (v := .ref (K 5)) (C := R_Model) (T := F_Model) (N := 25) hx hb hts i_Model hown hK (hv_one hP h17) 0 rfl rfl 5 (by decide) (hts _ k_Model_23) (fun _ h9 => h9) rfl d_Model_copyThing_49 ?_
  refine lv_iload_n hx hb d_Model_copyThing_52 rfl (lv_at hl 2 rfl) ?_
  refine lv_aload_n hx hb d_Model_copyThing_53 rfl (lv_at hl 0 rfl) ?_
  refine va_get (D := D) (ci := 7) (v := .ref (K 5)) (C := R_Model) (T := F_Model) (N := 25) hx hb hts i_Model hown hK (hv_one hP h17) 0 rfl rfl 5 (by decide) (hts _ k_Model_23) (fun _ h9 => h9) rfl d_Model_copyThing_54 ?_
  refine lv_iload_n hx hb d_Model_copyThing_57 rfl (lv_at hl 1 rfl) ?_
  have h18 : w15 (K 5) = some (.inl (ca 0, 640, .inl B.labelMany)) := hM.1.2 5 (by decide)
  refine va_iald hx hb hK (hv_one hP h18) 0 0 rfl rfl (vp_in_nI (n := a) (by omega) (by omega)) d_Model_copyThing_58 ?_
  rw [nI_clamp (n := a) (by omega)]
  refine hv_iast hx hb hK hP hS 0 h18 rfl (vp_in_nI (n := b) (by omega) (by omega)) d_Model_copyThing_59 (fun H locs hP hS => ?_)
  rw [nI_clamp (n := b) (by omega)] at hP
  obtain ⟨w19, ew19⟩ : ∃ z9 : hv_W, z9 = va_up w15 (K 5) (some (.inl (ca 0, 640, .inl (upd B.labelMany b ((B.labelMany a)))))) := ⟨_, rfl⟩
  have hP : hv_P D classes s0.heap.size w19 H := by rw [ew19]; exact hP
  have hM : mK ca K w0 A (((((B.sThere (upd B.there b (vp_nar .boolean (B.there a)))).sStarts (upd B.starts b ((B.starts a)))).sEnds (upd B.ends b ((B.ends a)))).sTypes (upd B.types b ((B.types a)))).sLabelMany (upd B.labelMany b ((B.labelMany a)))) w19 := by rw [ew19]; exact hM.put 5 (by decide) rfl
  have h20 : w19 (K 5) = some (.inl (ca 0, 640, .inl (upd B.labelMany b ((B.labelMany a))))) := by rw [ew19]; exact hv_up_s
  refine lv_aload_n hx hb d_Model_copyThing_60 rfl (lv_at hl 0 rfl) ?_
  have h21 : w19 (K 0) = some (.inr (7, [.int A.thrown, .ref (K 1), .ref (K 2), .ref (K 3), .ref (K 4), .ref (K 5), .ref (K 6), .ref (K 7), .ref (K 8), .ref (K 9), .ref (K 10), .ref (K 11), .ref (K 12), .int (nI A.tapeSize), .ref (K 13), .int A.error, .int A.off, .int A.inside, .int (nI A.changes), .int (nI A.earlier), .int (nI A.logged), .int A.over, .int (nI A.loose), .int A.written, .int (nI A.due)])) := hM.1.2 0 (by decide)
  refine va_get (D := D) (ci := 7) (v := .ref (K 7)) (C := R_Model) (T := F_Model) (N := 25) hx hb hts i_Model hown hK (hv_one hP h21) 0 rfl rfl 7 (by decide) (hts _ k_Model_29) (fun _ h9 => h9) rfl d_Model_copyThing_61 ?_
  refine lv_iload_n hx hb d_Model_copyThing_64 rfl (lv_at hl 2 rfl) ?_
  refine lv_aload_n hx hb d_Model_copyThing_65 rfl (lv_at hl 0 rfl) ?_
  refine va_get (D := D) (ci := 7) (v := .ref (K 7)) (C := R_Model) (T := F_Model) (N := 25) hx hb hts i_Model hown hK (hv_one hP h21) 0 rfl rfl 7 (by decide) (hts _ k_Model_29) (fun _ h9 => h9) rfl d_Model_copyThing_66 ?_
  refine lv_iload_n hx hb d_Model_copyThing_69 rfl (lv_at hl 1 rfl) ?_
  have h22 : w19 (K 7) = some (.inl (ca 0, 640, .inl B.propertyMany)) := hM.1.2 7 (by decide)
  refine va_iald hx hb hK (hv_one hP h22) 0 0 rfl rfl (vp_in_nI (n := a) (by omega) (by omega)) d_Model_copyThing_70 ?_
  rw [nI_clamp (n := a) (by omega)]
  refine hv_iast hx hb hK hP hS 0 h22 rfl (vp_in_nI (n := b) (by omega) (by omega)) d_Model_copyThing_71 (fun H locs hP hS => ?_)
  rw [nI_clamp (n := b) (by omega)] at hP
  obtain ⟨w23, ew23⟩ : ∃ z9 : hv_W, z9 = va_up w19 (K 7) (some (.inl (ca 0, 640, .inl (upd B.propertyMany b ((B.propertyMany a)))))) := ⟨_, rfl⟩
  have hP : hv_P D classes s0.heap.size w23 H := by rw [ew23]; exact hP
  have hM : mK ca K w0 A ((((((B.sThere (upd B.there b (vp_nar .boolean (B.there a)))).sStarts (upd B.starts b ((B.starts a)))).sEnds (upd B.ends b ((B.ends a)))).sTypes (upd B.types b ((B.types a)))).sLabelMany (upd B.labelMany b ((B.labelMany a)))).sPropertyMany (upd B.propertyMany b ((B.propertyMany a)))) w23 := by rw [ew23]; exact hM.put 7 (by decide) rfl
  have h24 : w23 (K 7) = some (.inl (ca 0, 640, .inl (upd B.propertyMany b ((B.propertyMany a))))) := by rw [ew23]; exact hv_up_s
  refine lv_iconst (v := 0) hx hb d_Model_copyThing_72 (by decide) ?_
  refine lv_istore_n (lv' := [(3, .int 0), (0, .ref (K 0)), (1, .int (nI a)), (2, .int (nI b))]) hx hb d_Model_copyThing_73 rfl hl (by decide) rfl (fun ls hl => ?_)
  obtain ⟨B1, eB1⟩ : ∃ z9 : mB, z9 = ((((((B.sThere (upd B.there b (vp_nar .boolean (B.there a)))).sStarts (upd B.starts b ((B.starts a)))).sEnds (upd B.ends b ((B.ends a)))).sTypes (upd B.types b ((B.types a)))).sLabelMany (upd B.labelMany b ((B.labelMany a)))).sPropertyMany (upd B.propertyMany b ((B.propertyMany a)))) := ⟨_, rfl⟩
  have hM : mK ca K w0 A B1 w23 := by rw [eB1]; exact hM
  have lp : ∀ (n9 : Nat) (k : Nat) (g : Nat → Int32) (z : hv_W), 4 - k < n9 → (k ≤ 4) → (mK ca K w0 A (B1.sLabels g) z) → (∀ i, i < k → g (4 * b + i) = B.labels (4 * a + i)) → (∀ i, (i < 4 * b ∨ 4 * b + 4 ≤ i) → g i = B.labels i) → ∀ (H : Heap) (locs : List Loc) (ls : Array Slot), hv_P D classes s0.heap.size z H → va_S (hv_A s0.heap.size) s.heap H locs → lv_has ls 4 [(0, .ref (K 0)), (1, .int (nI a)), (2, .int (nI b)), (3, .int (nI k))] → W p l e rm_Model_copyThing s m ([.ref (K 0), .int (nI a), .int (nI b)] : List Value).toArray below meth c H locs 0 0 Q (F0 m 74 ls []) := by
    intro n9
    induction n9 with
    | zero =>
      intro k g z hn9
      exact absurd hn9 (Nat.not_lt_zero _)
    | succ n9 ih =>
      intro k g z hn9 hk hM hj ho H locs ls hP hS hl
      refine lv_iload_n hx hb d_Model_copyThing_74 rfl (lv_at hl 3 rfl) ?_
      refine lv_iconst (v := 4) hx hb d_Model_copyThing_75 (by decide) ?_
      refine gk_icmp_ge (x := k) (y := 4) (tgt := 105) hx hb d_Model_copyThing_76 (by decide) (by omega) (by omega) (fun c76 => ?_) (fun c76 => ?_)
      · refine lv_iconst (v := 0) hx hb d_Model_copyThing_105 (by decide) ?_
        refine lv_istore_n (lv' := [(3, .int 0), (0, .ref (K 0)), (1, .int (nI a)), (2, .int (nI b))]) hx hb d_Model_copyThing_106 rfl hl (by decide) rfl (fun ls hl => ?_)
        have lp2 : ∀ (n9 : Nat) (k2 : Nat) (g1 g2 : Nat → Int32) (g3 : Nat → Int64) (z2 : hv_W), 6 - k2 < n9 → (k2 ≤ 6) → (mK ca K w0 A ((((B1.sLabels g).sKeys g1).sKinds g2).sValues g3) z2) → (∀ i, i < k2 → g1 (6 * b + i) = B.keys (6 * a + i)) → (∀ i, (i < 6 * b ∨ 6 * b + 6 ≤ i) → g1 i = B.keys i) → (∀ i, i < k2 → g2 (6 * b + i) = B.kinds (6 * a + i)) → (∀ i, (i < 6 * b ∨ 6 * b + 6 ≤ i) → g2 i = B.kinds i) → (∀ i, i < k2 → g3 (6 * b + i) = B.values (6 * a + i)) → (∀ i, (i < 6 * b ∨ 6 * b + 6 ≤ i) → g3 i = B.values i) → ∀ (H : Heap) (locs : List Loc) (ls : Array Slot), hv_P D classes s0.heap.size z2 H → va_S (hv_A s0.heap.size) s.heap H locs → lv_has ls 4 [(0, .ref (K 0)), (1, .int (nI a)), (2, .int (nI b)), (3, .int (nI k2))] → W p l e rm_Model_copyThing s m ([.ref (K 0), .int (nI a), .int (nI b)] : List Value).toArray below meth c H locs 0 0 Q (F0 m 107 ls []) := by
          intro n9
          induction n9 with
          | zero =>
            intro k2 g1 g2 g3 z2 hn9
            exact absurd hn9 (Nat.not_lt_zero _)
          | succ n9 ih =>
            intro k2 g1 g2 g3 z2 hn9 hk2 hM hj1 ho1 hj2 ho2 hj3 ho3 H locs ls hP hS hl
            refine lv_iload_n hx hb d_Model_copyThing_107 rfl (lv_at hl 3 rfl) ?_
            refine lv_bipush (v := 6) hx hb d_Model_copyThing_108 (by decide) ?_
            refine gk_icmp_ge (x := k2) (y := 6) (tgt := 185) hx hb d_Model_copyThing_110 (by decide) (by omega) (by omega) (fun c110 => ?_) (fun c110 => ?_)
            · refine lv_iconst (v := 0) hx hb d_Model_copyThing_185 (by decide) ?_
              refine lv_istore_n (lv' := [(3, .int 0), (0, .ref (K 0)), (1, .int (nI a)), (2, .int (nI b))]) hx hb d_Model_copyThing_186 rfl hl (by decide) rfl (fun ls hl => ?_)
              have lp3 : ∀ (n9 : Nat) (k3 : Nat) (g4 : Nat → Int64) (z3 : hv_W), 18 - k3 < n9 → (k3 ≤ 18) → (mK ca K w0 A (((((B1.sLabels g).sKeys g1).sKinds g2).sValues g3).sTexts g4) z3) → (∀ i, i < k3 → g4 (18 * b + i) = B.texts (18 * a + i)) → (∀ i, (i < 18 * b ∨ 18 * b + 18 ≤ i) → g4 i = B.texts i) → ∀ (H : Heap) (locs : List Loc) (ls : Array Slot), hv_P D classes s0.heap.size z3 H → va_S (hv_A s0.heap.size) s.heap H locs → lv_has ls 4 [(0, .ref (K 0)), (1, .int (nI a)), (2, .int (nI b)), (3, .int (nI k3))] → W p l e rm_Model_copyThing s m ([.ref (K 0), .int (nI a), .int (nI b)] : List Value).toArray below meth c H locs 0 0 Q (F0 m 187 ls []) := by
                intro n9
                induction n9 with
                | zero =>
                  intro k3 g4 z3 hn9
                  exact absurd hn9 (Nat.not_lt_zero _)
                | succ n9 ih =>
                  intro k3 g4 z3 hn9 hk3 hM hj4 ho4 H locs ls hP hS hl
                  refine lv_iload_n hx hb d_Model_copyThing_187 rfl (lv_at hl 3 rfl) ?_
                  refine lv_bipush (v := 18) hx hb d_Model_copyThing_188 (by decide) ?_
                  refine gk_icmp_ge (x := k3) (y := 18) (tgt := 221) hx hb d_Model_copyThing_190 (by decide) (by omega) (by omega) (fun c190 => ?_) (fun c190 => ?_)
                  · exact hv_vret hQ hx hb hr hZ hS hP hlocks d_Model_copyThing_221 (by subst eB1; exact ⟨rfl, _, hM, ⟨⟨pk_us.trans (m_nar (hbo a ha)), pk_us, pk_us, pk_us, pk_us, pk_us⟩, fun i hi => hj i (by omega), fun i hi => ⟨hj1 i (by omega), hj2 i (by omega), hj3 i (by omega)⟩, fun i hi => hj4 i (by omega)⟩, fun i hi => ⟨⟨pk_un hi, pk_un hi, pk_un hi, pk_un hi, pk_un hi, pk_un hi⟩, fun q hq => ho _ (by omega), fun q hq => ⟨ho1 _ (by omega), ho2 _ (by omega), ho3 _ (by omega)⟩, fun q hq => ho4 _ (by omega)⟩⟩)
                  · refine lv_aload_n hx hb d_Model_copyThing_193 rfl (lv_at hl 0 rfl) ?_
                    have h25 : z3 (K 0) = some (.inr (7, [.int A.thrown, .ref (K 1), .ref (K 2), .ref (K 3), .ref (K 4), .ref (K 5), .ref (K 6), .ref (K 7), .ref (K 8), .ref (K 9), .ref (K 10), .ref (K 11), .ref (K 12), .int (nI A.tapeSize), .ref (K 13), .int A.error, .int A.off, .int A.inside, .int (nI A.changes), .int (nI A.earlier), .int (nI A.logged), .int A.over, .int (nI A.loose), .int A.written, .int (nI A.due)])) := hM.1.2 0 (by decide)
                    refine va_get (D := D) (ci := 7) (v := .ref (K 11)) (C := R_Model) (T := F_Model) (N := 25) hx hb hts i_Model hown hK (hv_one hP h25) 0 rfl rfl 11 (by decide) (hts _ k_Model_42) (fun _ h9 => h9) rfl d_Model_copyThing_194 ?_
                    refine lv_bipush (v := 18) hx hb d_Model_copyThing_197 (by decide) ?_
                    refine lv_iload_n hx hb d_Model_copyThing_199 rfl (lv_at hl 2 rfl) ?_
                    refine gk_imul (x := 18) (y := b) hx hb d_Model_copyThing_200 ?_
                    refine lv_iload_n hx hb d_Model_copyThing_201 rfl (lv_at hl 3 rfl) ?_
                    refine gk_iadd (x := 18 * b) (y := k3) hx hb d_Model_copyThing_202 ?_
                    refine lv_aload_n hx hb d_Model_copyThing_203 rfl (lv_at hl 0 rfl) ?_
                    refine va_get (D := D) (ci := 7) (v := .ref (K 11)) (C := R_Model) (T := F_Model) (N := 25) hx hb hts i_Model hown hK (hv_one hP h25) 0 rfl rfl 11 (by decide) (hts _ k_Model_42) (fun _ h9 => h9) rfl d_Model_copyThing_204 ?_
                    refine lv_bipush (v := 18) hx hb d_Model_copyThing_207 (by decide) ?_
                    refine lv_iload_n hx hb d_Model_copyThing_209 rfl (lv_at hl 1 rfl) ?_
                    refine gk_imul (x := 18) (y := a) hx hb d_Model_copyThing_210 ?_
                    refine lv_iload_n hx hb d_Model_copyThing_211 rfl (lv_at hl 3 rfl) ?_
                    refine gk_iadd (x := 18 * a) (y := k3) hx hb d_Model_copyThing_212 ?_
                    have h26 : z3 (K 11) = some (.inl (ca 3, 11520, .inr (.inl g4))) := hM.1.2 11 (by decide)
                    refine va_lald hx hb hK (hv_one hP h26) 0 3 rfl rfl (vp_in_nI (n := (18 * a) + k3) (by omega) (by omega)) d_Model_copyThing_213 ?_
                    rw [nI_clamp (n := (18 * a) + k3) (by omega)]
                    refine hv_last hx hb hK hP hS 3 h26 rfl (vp_in_nI (n := (18 * b) + k3) (by omega) (by omega)) d_Model_copyThing_214 (fun H locs hP hS => ?_)
                    rw [nI_clamp (n := (18 * b) + k3) (by omega)] at hP
                    obtain ⟨w27, ew27⟩ : ∃ z9 : hv_W, z9 = va_up z3 (K 11) (some (.inl (ca 3, 11520, .inr (.inl (vp_updL g4 ((18 * b) + k3) (g4 ((18 * a) + k3))))))) := ⟨_, rfl⟩
                    have hP : hv_P D classes s0.heap.size w27 H := by rw [ew27]; exact hP
                    have hM : mK ca K w0 A (((((B1.sLabels g).sKeys g1).sKinds g2).sValues g3).sTexts (vp_updL g4 ((18 * b) + k3) (g4 ((18 * a) + k3)))) w27 := by rw [ew27]; exact hM.put 11 (by decide) rfl
                    have h28 : w27 (K 11) = some (.inl (ca 3, 11520, .inr (.inl (vp_updL g4 ((18 * b) + k3) (g4 ((18 * a) + k3)))))) := by rw [ew27]; exact hv_up_s
                    refine lv_iinc (v := (nI (k3 + 1))) (lv' := [(3, .int ((nI (k3 + 1)))), (0, .ref (K 0)), (1, .int (nI a)), (2, .int (nI b))]) hx hb d_Model_copyThing_215 hl (k := 3) rfl (nI_add k3 1) (by decide) rfl (fun ls hl => ?_)
                    refine lv_goto (tgt := 187) hx hb d_Model_copyThing_218 (by decide) ?_
                    exact ih (k3 + 1) (vp_updL g4 ((18 * b) + k3) (g4 ((18 * a) + k3))) w27 (by omega) (by omega) hM (m_cp (u := vp_updL g4 ((18 * b) + k3) (g4 ((18 * a) + k3))) (f := B.texts) (b := 18 * b) (a := 18 * a) (k := k3) (n := 18) m_uLs (fun i hi => m_uLn hi) (by omega) hj4 ho4 (by omega)).1 (m_cp (u := vp_updL g4 ((18 * b) + k3) (g4 ((18 * a) + k3))) (f := B.texts) (b := 18 * b) (a := 18 * a) (k := k3) (n := 18) m_uLs (fun i hi => m_uLn hi) (by omega) hj4 ho4 (by omega)).2 _ _ _ hP hS (lv_sub hl [1, 2, 3, 0] rfl)
              exact lp3 _ 0 B.texts z2 (Nat.lt_succ_self _) (Nat.zero_le _) (by rw [eB1] at hM ⊢; exact hM) (fun j q => absurd q (Nat.not_lt_zero _)) (fun _ _ => rfl) _ _ _ hP hS (lv_sub hl [1, 2, 3, 0] rfl)
            · refine lv_aload_n hx hb d_Model_copyThing_113 rfl (lv_at hl 0 rfl) ?_
              have h29 : z2 (K 0) = some (.inr (7, [.int A.thrown, .ref (K 1), .ref (K 2), .ref (K 3), .ref (K 4), .ref (K 5), .ref (K 6), .ref (K 7), .ref (K 8), .ref (K 9), .ref (K 10), .ref (K 11), .ref (K 12), .int (nI A.tapeSize), .ref (K 13), .int A.error, .int A.off, .int A.inside, .int (nI A.changes), .int (nI A.earlier), .int (nI A.logged), .int A.over, .int (nI A.loose), .int A.written, .int (nI A.due)])) := hM.1.2 0 (by decide)
              refine va_get (D := D) (ci := 7) (v := .ref (K 8)) (C := R_Model) (T := F_Model) (N := 25) hx hb hts i_Model hown hK (hv_one hP h29) 0 rfl rfl 8 (by decide) (hts _ k_Model_32) (fun _ h9 => h9) rfl d_Model_copyThing_114 ?_
              refine lv_bipush (v := 6) hx hb d_Model_copyThing_117 (by decide) ?_
              refine lv_iload_n hx hb d_Model_copyThing_119 rfl (lv_at hl 2 rfl) ?_
              refine gk_imul (x := 6) (y := b) hx hb d_Model_copyThing_120 ?_
              refine lv_iload_n hx hb d_Model_copyThing_121 rfl (lv_at hl 3 rfl) ?_
              refine gk_iadd (x := 6 * b) (y := k2) hx hb d_Model_copyThing_122 ?_
              refine lv_aload_n hx hb d_Model_copyThing_123 rfl (lv_at hl 0 rfl) ?_
              refine va_get (D := D) (ci := 7) (v := .ref (K 8)) (C := R_Model) (T := F_Model) (N := 25) hx hb hts i_Model hown hK (hv_one hP h29) 0 rfl rfl 8 (by decide) (hts _ k_Model_32) (fun _ h9 => h9) rfl d_Model_copyThing_124 ?_
              refine lv_bipush (v := 6) hx hb d_Model_copyThing_127 (by decide) ?_
              refine lv_iload_n hx hb d_Model_copyThing_129 rfl (lv_at hl 1 rfl) ?_
              refine gk_imul (x := 6) (y := a) hx hb d_Model_copyThing_130 ?_
              refine lv_iload_n hx hb d_Model_copyThing_131 rfl (lv_at hl 3 rfl) ?_
              refine gk_iadd (x := 6 * a) (y := k2) hx hb d_Model_copyThing_132 ?_
              have h30 : z2 (K 8) = some (.inl (ca 0, 3840, .inl g1)) := hM.1.2 8 (by decide)
              refine va_iald hx hb hK (hv_one hP h30) 0 0 rfl rfl (vp_in_nI (n := (6 * a) + k2) (by omega) (by omega)) d_Model_copyThing_133 ?_
              rw [nI_clamp (n := (6 * a) + k2) (by omega)]
              refine hv_iast hx hb hK hP hS 0 h30 rfl (vp_in_nI (n := (6 * b) + k2) (by omega) (by omega)) d_Model_copyThing_134 (fun H locs hP hS => ?_)
              rw [nI_clamp (n := (6 * b) + k2) (by omega)] at hP
              obtain ⟨w31, ew31⟩ : ∃ z9 : hv_W, z9 = va_up z2 (K 8) (some (.inl (ca 0, 3840, .inl (upd g1 ((6 * b) + k2) ((g1 ((6 * a) + k2))))))) := ⟨_, rfl⟩
              have hP : hv_P D classes s0.heap.size w31 H := by rw [ew31]; exact hP
              have hM : mK ca K w0 A ((((B1.sLabels g).sKinds g2).sValues g3).sKeys (upd g1 ((6 * b) + k2) ((g1 ((6 * a) + k2))))) w31 := by rw [ew31]; exact hM.put 8 (by decide) rfl
              have h32 : w31 (K 8) = some (.inl (ca 0, 3840, .inl (upd g1 ((6 * b) + k2) ((g1 ((6 * a) + k2)))))) := by rw [ew31]; exact hv_up_s
              refine lv_aload_n hx hb d_Model_copyThing_135 rfl (lv_at hl 0 rfl) ?_
              have h33 : w31 (K 0) = some (.inr (7, [.int A.thrown, .ref (K 1), .ref (K 2), .ref (K 3), .ref (K 4), .ref (K 5), .ref (K 6), .ref (K 7), .ref (K 8), .ref (K 9), .ref (K 10), .ref (K 11), .ref (K 12), .int (nI A.tapeSize), .ref (K 13), .int A.error, .int A.off, .int A.inside, .int (nI A.changes), .int (nI A.earlier), .int (nI A.logged), .int A.over, .int (nI A.loose), .int A.written, .int (nI A.due)])) := hM.1.2 0 (by decide)
              refine va_get (D := D) (ci := 7) (v := .ref (K 9)) (C := R_Model) (T := F_Model) (N := 25) hx hb hts i_Model hown hK (hv_one hP h33) 0 rfl rfl 9 (by decide) (hts _ k_Model_35) (fun _ h9 => h9) rfl d_Model_copyThing_136 ?_
              refine lv_bipush (v := 6) hx hb d_Model_copyThing_139 (by decide) ?_
              refine lv_iload_n hx hb d_Model_copyThing_141 rfl (lv_at hl 2 rfl) ?_
              refine gk_imul (x := 6) (y := b) hx hb d_Model_copyThing_142 ?_
              refine lv_iload_n hx hb d_Model_copyThing_143 rfl (lv_at hl 3 rfl) ?_
              refine gk_iadd (x := 6 * b) (y := k2) hx hb d_Model_copyThing_144 ?_
              refine lv_aload_n hx hb d_Model_copyThing_145 rfl (lv_at hl 0 rfl) ?_
              refine va_get (D := D) (ci := 7) (v := .ref (K 9)) (C := R_Model) (T := F_Model) (N := 25) hx hb hts i_Model hown hK (hv_one hP h33) 0 rfl rfl 9 (by decide) (hts _ k_Model_35) (fun _ h9 => h9) rfl d_Model_copyThing_146 ?_
              refine lv_bipush (v := 6) hx hb d_Model_copyThing_149 (by decide) ?_
              refine lv_iload_n hx hb d_Model_copyThing_151 rfl (lv_at hl 1 rfl) ?_
              refine gk_imul (x := 6) (y := a) hx hb d_Model_copyThing_152 ?_
              refine lv_iload_n hx hb d_Model_copyThing_153 rfl (lv_at hl 3 rfl) ?_
              refine gk_iadd (x := 6 * a) (y := k2) hx hb d_Model_copyThing_154 ?_
              have h34 : w31 (K 9) = some (.inl (ca 0, 3840, .inl g2)) := hM.1.2 9 (by decide)
              refine va_iald hx hb hK (hv_one hP h34) 0 0 rfl rfl (vp_in_nI (n := (6 * a) + k2) (by omega) (by omega)) d_Model_copyThing_155 ?_
              rw [nI_clamp (n := (6 * a) + k2) (by omega)]
              refine hv_iast hx hb hK hP hS 0 h34 rfl (vp_in_nI (n := (6 * b) + k2) (by omega) (by omega)) d_Model_copyThing_156 (fun H locs hP hS => ?_)
              rw [nI_clamp (n := (6 * b) + k2) (by omega)] at hP
              obtain ⟨w35, ew35⟩ : ∃ z9 : hv_W, z9 = va_up w31 (K 9) (some (.inl (ca 0, 3840, .inl (upd g2 ((6 * b) + k2) ((g2 ((6 * a) + k2))))))) := ⟨_, rfl⟩
              have hP : hv_P D classes s0.heap.size w35 H := by rw [ew35]; exact hP
              have hM : mK ca K w0 A ((((B1.sLabels g).sValues g3).sKeys (upd g1 ((6 * b) + k2) ((g1 ((6 * a) + k2))))).sKinds (upd g2 ((6 * b) + k2) ((g2 ((6 * a) + k2))))) w35 := by rw [ew35]; exact hM.put 9 (by decide) rfl
              have h36 : w35 (K 9) = some (.inl (ca 0, 3840, .inl (upd g2 ((6 * b) + k2) ((g2 ((6 * a) + k2)))))) := by rw [ew35]; exact hv_up_s
              refine lv_aload_n hx hb d_Model_copyThing_157 rfl (lv_at hl 0 rfl) ?_
              have h37 : w35 (K 0) = some (.inr (7, [.int A.thrown, .ref (K 1), .ref (K 2), .ref (K 3), .ref (K 4), .ref (K 5), .ref (K 6), .ref (K 7), .ref (K 8), .ref (K 9), .ref (K 10), .ref (K 11), .ref (K 12), .int (nI A.tapeSize), .ref (K 13), .int A.error, .int A.off, .int A.inside, .int (nI A.changes), .int (nI A.earlier), .int (nI A.logged), .int A.over, .int (nI A.loose), .int A.written, .int (nI A.due)])) := hM.1.2 0 (by decide)
              refine va_get (D := D) (ci := 7) (v := .ref (K 10)) (C := R_Model) (T := F_Model) (N := 25) hx hb hts i_Model hown hK (hv_one hP h37) 0 rfl rfl 10 (by decide) (hts _ k_Model_38) (fun _ h9 => h9) rfl d_Model_copyThing_158 ?_
              refine lv_bipush (v := 6) hx hb d_Model_copyThing_161 (by decide) ?_
              refine lv_iload_n hx hb d_Model_copyThing_163 rfl (lv_at hl 2 rfl) ?_
              refine gk_imul (x := 6) (y := b) hx hb d_Model_copyThing_164 ?_
              refine lv_iload_n hx hb d_Model_copyThing_165 rfl (lv_at hl 3 rfl) ?_
              refine gk_iadd (x := 6 * b) (y := k2) hx hb d_Model_copyThing_166 ?_
              refine lv_aload_n hx hb d_Model_copyThing_167 rfl (lv_at hl 0 rfl) ?_
              refine va_get (D := D) (ci := 7) (v := .ref (K 10)) (C := R_Model) (T := F_Model) (N := 25) hx hb hts i_Model hown hK (hv_one hP h37) 0 rfl rfl 10 (by decide) (hts _ k_Model_38) (fun _ h9 => h9) rfl d_Model_copyThing_168 ?_
              refine lv_bipush (v := 6) hx hb d_Model_copyThing_171 (by decide) ?_
              refine lv_iload_n hx hb d_Model_copyThing_173 rfl (lv_at hl 1 rfl) ?_
              refine gk_imul (x := 6) (y := a) hx hb d_Model_copyThing_174 ?_
              refine lv_iload_n hx hb d_Model_copyThing_175 rfl (lv_at hl 3 rfl) ?_
              refine gk_iadd (x := 6 * a) (y := k2) hx hb d_Model_copyThing_176 ?_
              have h38 : w35 (K 10) = some (.inl (ca 3, 3840, .inr (.inl g3))) := hM.1.2 10 (by decide)
              refine va_lald hx hb hK (hv_one hP h38) 0 3 rfl rfl (vp_in_nI (n := (6 * a) + k2) (by omega) (by omega)) d_Model_copyThing_177 ?_
              rw [nI_clamp (n := (6 * a) + k2) (by omega)]
              refine hv_last hx hb hK hP hS 3 h38 rfl (vp_in_nI (n := (6 * b) + k2) (by omega) (by omega)) d_Model_copyThing_178 (fun H locs hP hS => ?_)
              rw [nI_clamp (n := (6 * b) + k2) (by omega)] at hP
              obtain ⟨w39, ew39⟩ : ∃ z9 : hv_W, z9 = va_up w35 (K 10) (some (.inl (ca 3, 3840, .inr (.inl (vp_updL g3 ((6 * b) + k2) (g3 ((6 * a) + k2))))))) := ⟨_, rfl⟩
              have hP : hv_P D classes s0.heap.size w39 H := by rw [ew39]; exact hP
              have hM : mK ca K w0 A ((((B1.sLabels g).sKeys (upd g1 ((6 * b) + k2) ((g1 ((6 * a) + k2))))).sKinds (upd g2 ((6 * b) + k2) ((g2 ((6 * a) + k2))))).sValues (vp_updL g3 ((6 * b) + k2) (g3 ((6 * a) + k2)))) w39 := by rw [ew39]; exact hM.put 10 (by decide) rfl
              have h40 : w39 (K 10) = some (.inl (ca 3, 3840, .inr (.inl (vp_updL g3 ((6 * b) + k2) (g3 ((6 * a) + k2)))))) := by rw [ew39]; exact hv_up_s
              refine lv_iinc (v := (nI (k2 + 1))) (lv' := [(3, .int ((nI (k2 + 1)))), (0, .ref (K 0)), (1, .int (nI a)), (2, .int (nI b))]) hx hb d_Model_copyThing_179 hl (k := 3) rfl (nI_add k2 1) (by decide) rfl (fun ls hl => ?_)
              refine lv_goto (tgt := 107) hx hb d_Model_copyThing_182 (by decide) ?_
              exact ih (k2 + 1) (upd g1 ((6 * b) + k2) ((g1 ((6 * a) + k2)))) (upd g2 ((6 * b) + k2) ((g2 ((6 * a) + k2)))) (vp_updL g3 ((6 * b) + k2) (g3 ((6 * a) + k2))) w39 (by omega) (by omega) hM (m_cp (u := upd g1 ((6 * b) + k2) ((g1 ((6 * a) + k2)))) (f := B.keys) (b := 6 * b) (a := 6 * a) (k := k2) (n := 6) pk_us (fun i hi => pk_un hi) (by omega) hj1 ho1 (by omega)).1 (m_cp (u := upd g1 ((6 * b) + k2) ((g1 ((6 * a) + k2)))) (f := B.keys) (b := 6 * b) (a := 6 * a) (k := k2) (n := 6) pk_us (fun i hi => pk_un hi) (by omega) hj1 ho1 (by omega)).2 (m_cp (u := upd g2 ((6 * b) + k2) ((g2 ((6 * a) + k2)))) (f := B.kinds) (b := 6 * b) (a := 6 * a) (k := k2) (n := 6) pk_us (fun i hi => pk_un hi) (by omega) hj2 ho2 (by omega)).1 (m_cp (u := upd g2 ((6 * b) + k2) ((g2 ((6 * a) + k2)))) (f := B.kinds) (b := 6 * b) (a := 6 * a) (k := k2) (n := 6) pk_us (fun i hi => pk_un hi) (by omega) hj2 ho2 (by omega)).2 (m_cp (u := vp_updL g3 ((6 * b) + k2) (g3 ((6 * a) + k2))) (f := B.values) (b := 6 * b) (a := 6 * a) (k := k2) (n := 6) m_uLs (fun i hi => m_uLn hi) (by omega) hj3 ho3 (by omega)).1 (m_cp (u := vp_updL g3 ((6 * b) + k2) (g3 ((6 * a) + k2))) (f := B.values) (b := 6 * b) (a := 6 * a) (k := k2) (n := 6) m_uLs (fun i hi => m_uLn hi) (by omega) hj3 ho3 (by omega)).2 _ _ _ hP hS (lv_sub hl [1, 2, 3, 0] rfl)
        exact lp2 _ 0 B.keys B.kinds B.values z (Nat.lt_succ_self _) (Nat.zero_le _) (by rw [eB1] at hM ⊢; exact hM) (fun j q => absurd q (Nat.not_lt_zero _)) (fun _ _ => rfl) (fun j q => absurd q (Nat.not_lt_zero _)) (fun _ _ => rfl) (fun j q => absurd q (Nat.not_lt_zero _)) (fun _ _ => rfl) _ _ _ hP hS (lv_sub hl [1, 2, 3, 0] rfl)
      · refine lv_aload_n hx hb d_Model_copyThing_79 rfl (lv_at hl 0 rfl) ?_
        have h41 : z (K 0) = some (.inr (7, [.int A.thrown, .ref (K 1), .ref (K 2), .ref (K 3), .ref (K 4), .ref (K 5), .ref (K 6), .ref (K 7), .ref (K 8), .ref (K 9), .ref (K 10), .ref (K 11), .ref (K 12), .int (nI A.tapeSize), .ref (K 13), .int A.error, .int A.off, .int A.inside, .int (nI A.changes), .int (nI A.earlier), .int (nI A.logged), .int A.over, .int (nI A.loose), .int A.written, .int (nI A.due)])) := hM.1.2 0 (by decide)
        refine va_get (D := D) (ci := 7) (v := .ref (K 6)) (C := R_Model) (T := F_Model) (N := 25) hx hb hts i_Model hown hK (hv_one hP h41) 0 rfl rfl 6 (by decide) (hts _ k_Model_26) (fun _ h9 => h9) rfl d_Model_copyThing_80 ?_
        refine lv_iconst (v := 4) hx hb d_Model_copyThing_83 (by decide) ?_
        refine lv_iload_n hx hb d_Model_copyThing_84 rfl (lv_at hl 2 rfl) ?_
        refine gk_imul (x := 4) (y := b) hx hb d_Model_copyThing_85 ?_
        refine lv_iload_n hx hb d_Model_copyThing_86 rfl (lv_at hl 3 rfl) ?_
        refine gk_iadd (x := 4 * b) (y := k) hx hb d_Model_copyThing_87 ?_
        refine lv_aload_n hx hb d_Model_copyThing_88 rfl (lv_at hl 0 rfl) ?_
        refine va_get (D := D) (ci := 7) (v := .ref (K 6)) (C := R_Model) (T := F_Model) (N := 25) hx hb hts i_Model hown hK (hv_one hP h41) 0 rfl rfl 6 (by decide) (hts _ k_Model_26) (fun _ h9 => h9) rfl d_Model_copyThing_89 ?_
        refine lv_iconst (v := 4) hx hb d_Model_copyThing_92 (by decide) ?_
        refine lv_iload_n hx hb d_Model_copyThing_93 rfl (lv_at hl 1 rfl) ?_
        refine gk_imul (x := 4) (y := a) hx hb d_Model_copyThing_94 ?_
        refine lv_iload_n hx hb d_Model_copyThing_95 rfl (lv_at hl 3 rfl) ?_
        refine gk_iadd (x := 4 * a) (y := k) hx hb d_Model_copyThing_96 ?_
        have h42 : z (K 6) = some (.inl (ca 0, 2560, .inl g)) := hM.1.2 6 (by decide)
        refine va_iald hx hb hK (hv_one hP h42) 0 0 rfl rfl (vp_in_nI (n := (4 * a) + k) (by omega) (by omega)) d_Model_copyThing_97 ?_
        rw [nI_clamp (n := (4 * a) + k) (by omega)]
        refine hv_iast hx hb hK hP hS 0 h42 rfl (vp_in_nI (n := (4 * b) + k) (by omega) (by omega)) d_Model_copyThing_98 (fun H locs hP hS => ?_)
        rw [nI_clamp (n := (4 * b) + k) (by omega)] at hP
        obtain ⟨w43, ew43⟩ : ∃ z9 : hv_W, z9 = va_up z (K 6) (some (.inl (ca 0, 2560, .inl (upd g ((4 * b) + k) ((g ((4 * a) + k))))))) := ⟨_, rfl⟩
        have hP : hv_P D classes s0.heap.size w43 H := by rw [ew43]; exact hP
        have hM : mK ca K w0 A (B1.sLabels (upd g ((4 * b) + k) ((g ((4 * a) + k))))) w43 := by rw [ew43]; exact hM.put 6 (by decide) rfl
        have h44 : w43 (K 6) = some (.inl (ca 0, 2560, .inl (upd g ((4 * b) + k) ((g ((4 * a) + k)))))) := by rw [ew43]; exact hv_up_s
        refine lv_iinc (v := (nI (k + 1))) (lv' := [(3, .int ((nI (k + 1)))), (0, .ref (K 0)), (1, .int (nI a)), (2, .int (nI b))]) hx hb d_Model_copyThing_99 hl (k := 3) rfl (nI_add k 1) (by decide) rfl (fun ls hl => ?_)
        refine lv_goto (tgt := 74) hx hb d_Model_copyThing_102 (by decide) ?_
        exact ih (k + 1) (upd g ((4 * b) + k) ((g ((4 * a) + k)))) w43 (by omega) (by omega) hM (m_cp (u := upd g ((4 * b) + k) ((g ((4 * a) + k)))) (f := B.labels) (b := 4 * b) (a := 4 * a) (k := k) (n := 4) pk_us (fun i hi => pk_un hi) (by omega) hj ho (by omega)).1 (m_cp (u := upd g ((4 * b) + k) ((g ((4 * a) + k)))) (f := B.labels) (b := 4 * b) (a := 4 * a) (k := k) (n := 4) pk_us (fun i hi => pk_un hi) (by omega) hj ho (by omega)).2 _ _ _ hP hS (lv_sub hl [1, 2, 3, 0] rfl)
  exact lp _ 0 B.labels w23 (Nat.lt_succ_self _) (Nat.zero_le _) (by rw [eB1] at hM ⊢; exact hM) (fun j q => absurd q (Nat.not_lt_zero _)) (fun _ _ => rfl) _ _ _ hP hS (lv_sub hl [1, 2, 3, 0] rfl)

abbrev rm_Model_copy : Room := { frames := 1, cells := 0, slots := 0, locals := 23 }
set_option maxHeartbeats 4000000 in
set_option maxRecDepth 100000 in
theorem c_Model_copy {l : Launch} {s0 : State} {D : va_G} {ca : Nat → ClassId} (C : hv_C l s0 D (hv_tys ca)) {w : hv_W} {K : Nat → Nat} {w0 : hv_W} {A : mA} {B : mB} {f t : Nat} (hf : f < 4) (ht : t < 4) (hft : f ≠ t) (hM : mK ca K w0 A B w) (hbo : mBo B)  :
    hv_Met l y_Model_copy [.code y_Model_copy b_Model_copy 4 none] rm_Model_copy (hv_Pc s0 D w [.ref (K 0), .int (nI f), .int (nI t)]) (hv_Q s0 D (fun v w' => v = none ∧ ∃ B', mK ca K w0 A B' w' ∧ (∀ k, k < 160 → mEq B (160 * f + k) B' (160 * t + k)) ∧ ∀ j, (j < 160 * t ∨ 160 * t + 160 ≤ j) → mEq B j B' j) (fun _ _ => False)) 0 0 (hv_A s0.heap.size) := by
  refine hv_enter C _ (by decide) (Nat.le_of_ble_eq_true rfl) ?_
  intro p e s m below meth c ls Q hQ hx hb hr hml hown hts hK hZ hlocks hname hout htr hP hl
  have hown : s.vm.findClass R_Model = some m.cls := hown
  have hS : va_S (hv_A s0.heap.size) s.heap s.heap [] := va_S.rf
  have hl : lv_has ls 4 [(0, .ref (K 0)), (1, .int (nI f)), (2, .int (nI t))] := hl
  refine lv_iconst (v := 0) hx hb d_Model_copy_0 (by decide) ?_
  refine lv_istore_n (lv' := [(3, .int 0), (0, .ref (K 0)), (1, .int (nI f)), (2, .int (nI t))]) hx hb d_Model_copy_1 rfl hl (by decide) rfl (fun ls hl => ?_)
  have lp : ∀ (n9 : Nat) (k : Nat) (B1 : mB) (z : hv_W), 160 - k < n9 → (k ≤ 160) → (mK ca K w0 A B1 z) → (mBo B1) → (∀ i, i < k → mEq B (160 * f + i) B1 (160 * t + i)) → (∀ j, (j < 160 * t ∨ 160 * t + k ≤ j) → mEq B j B1 j) → ∀ (H : Heap) (locs : List Loc) (ls : Array Slot), hv_P D classes s0.heap.size z H → va_S (hv_A s0.heap.size) s.heap H locs → lv_has ls 4 [(0, .ref (K 0)), (1, .int (nI f)), (2, .int (nI t)), (3, .int (nI k))] → W p l e rm_Model_copy s m ([.ref (K 0), .int (nI f), .int (nI t)] : List Value).toArray below meth c H locs 0 0 Q (F0 m 2 ls []) := by
    intro n9
    induction n9 with
    | zero =>
      intro k B1 z hn9
      exact absurd hn9 (Nat.not_lt_zero _)
    | succ n9 ih =>
      intro k B1 z hn9 hk hM hbo1 hj ho H locs ls hP hS hl
      refine lv_iload_n hx hb d_Model_copy_2 rfl (lv_at hl 3 rfl) ?_
      refine lv_sipush (v := 160) hx hb d_Model_copy_3 (by decide) ?_
      refine gk_icmp_ge (x := k) (y := 160) (tgt := 33) hx hb d_Model_copy_6 (by decide) (by omega) (by omega) (fun c6 => ?_) (fun c6 => ?_)
      · exact hv_vret hQ hx hb hr hZ hS hP hlocks d_Model_copy_33 (⟨rfl, B1, hM, fun i hi => hj i (by omega), fun j hj9 => ho j (by omega)⟩)
      · refine lv_aload_n hx hb d_Model_copy_9 rfl (lv_at hl 0 rfl) ?_
        refine lv_sipush (v := 160) hx hb d_Model_copy_10 (by decide) ?_
        refine lv_iload_n hx hb d_Model_copy_13 rfl (lv_at hl 1 rfl) ?_
        refine gk_imul (x := 160) (y := f) hx hb d_Model_copy_14 ?_
        refine lv_iload_n hx hb d_Model_copy_15 rfl (lv_at hl 3 rfl) ?_
        refine gk_iadd (x := 160 * f) (y := k) hx hb d_Model_copy_16 ?_
        refine lv_sipush (v := 160) hx hb d_Model_copy_17 (by decide) ?_
        refine lv_iload_n hx hb d_Model_copy_20 rfl (lv_at hl 2 rfl) ?_
        refine gk_imul (x := 160) (y := t) hx hb d_Model_copy_21 ?_
        refine lv_iload_n hx hb d_Model_copy_22 rfl (lv_at hl 3 rfl) ?_
        refine gk_iadd (x := 160 * t) (y := k) hx hb d_Model_copy_23 ?_
        have h1 : z (K 0) = some (.inr (7, [.int A.thrown, .ref (K 1), .ref (K 2), .ref (K 3), .ref (K 4), .ref (K 5), .ref (K 6), .ref (K 7), .ref (K 8), .ref (K 9), .ref (K 10), .ref (K 11), .ref (K 12), .int (nI A.tapeSize), .ref (K 13), .int A.error, .int A.off, .int A.inside, .int (nI A.changes), .int (nI A.earlier), .int (nI A.logged), .int A.over, .int (nI A.loose), .int A.written, .int (nI A.due)])) := hM.1.2 0 (by decide)
        refine hv_call (hv_runV (As := [.int (nI ((160 * f) + k)), .int (nI ((160 * t) + k))]) (rest := []) (c_Model_copyThing C (a := 160 * f + k) (b := 160 * t + k) (by omega) (by omega) (by omega) hM hbo1) (hv_cw C hZ kc_Model_copyThing kn_Model ⟨rfl, rfl, Nat.le_of_ble_eq_true rfl, Nat.le_of_ble_eq_true rfl⟩) hv_blind (hv_pre hZ hS hP) hx hml hb hown (hts _ k_Model_55) (hts _ ki_Model_copyThing) (hts _ ksel_Model_Model_copyThing) hy_Model_copyThing (hts _ kc_Model_copyThing) (va_recv hK (hv_one hP h1) (ci := 7) (q0 := 0) rfl rfl) rfl hl.1 rfl (lv_room (Nat.le_of_ble_eq_true rfl)) d_Model_copy_24 ⟨Nat.le_of_ble_eq_true rfl, Nat.le_of_ble_eq_true rfl⟩) hZ hS (fun v9 w2 H locs q3 hP hS => ?_) (fun x9 w2 H locs q3 hP hS => q3.elim)
        obtain ⟨hv9, B2, hM, hc1, hc2⟩ := q3
        subst hv9
        show W _ _ _ _ _ _ _ _ _ _ _ _ _ _ _ (F0 m 27 ls [])
        refine lv_iinc (v := (nI (k + 1))) (lv' := [(3, .int ((nI (k + 1)))), (0, .ref (K 0)), (1, .int (nI f)), (2, .int (nI t))]) hx hb d_Model_copy_27 hl (k := 3) rfl (nI_add k 1) (by decide) rfl (fun ls hl => ?_)
        refine lv_goto (tgt := 2) hx hb d_Model_copy_30 (by decide) ?_
        exact ih (k + 1) B2 w2 (by omega) (by omega) hM (hbo1.eq (fun j hj9 => (Classical.em (j = 160 * t + k)).elim (fun q => ⟨160 * f + k, by omega, by rw [q]; exact hc1⟩) (fun q => ⟨j, hj9, hc2 j q⟩))) (fun i hi => (Classical.em (i = k)).elim (fun q => by subst q; exact (ho _ (by omega)).trans hc1) (fun q => (hj i (by omega)).trans (hc2 _ (by omega)))) (fun j hj9 => (ho j (by omega)).trans (hc2 j (by omega))) _ _ _ hP hS (lv_sub hl [1, 2, 3, 0] rfl)
  exact lp _ 0 B w (Nat.lt_succ_self _) (Nat.zero_le _) hM hbo (fun j q => absurd q (Nat.not_lt_zero _)) (fun j _ => mEq.refl B j) _ _ _ hP hS (lv_sub hl [1, 2, 3, 0] rfl)

abbrev rm_Model_erase : Room := { frames := 0, cells := 0, slots := 0, locals := 0 }
set_option maxHeartbeats 4000000 in
set_option maxRecDepth 100000 in
theorem c_Model_erase {l : Launch} {s0 : State} {D : va_G} {ca : Nat → ClassId} (C : hv_C l s0 D (hv_tys ca)) {w : hv_W} {K : Nat → Nat} {w0 : hv_W} {A : mA} {B : mB} (hM : mK ca K w0 A B w)  :
    hv_Met l y_Model_erase [.code y_Model_erase b_Model_erase 2 none] rm_Model_erase (hv_Pc s0 D w [.ref (K 0)]) (hv_Q s0 D (fun v w' => v = none ∧ ∃ g, mK ca K w0 A (B.sThere g) w' ∧ (∀ i, i < 160 → g i = 0) ∧ ∀ i, 160 ≤ i → g i = B.there i) (fun _ _ => False)) 0 0 (hv_A s0.heap.size) := by
  refine hv_enter C _ (by decide) (Nat.le_of_ble_eq_true rfl) ?_
  intro p e s m below meth c ls Q hQ hx hb hr hml hown hts hK hZ hlocks hname hout htr hP hl
  have hown : s.vm.findClass R_Model = some m.cls := hown
  have hS : va_S (hv_A s0.heap.size) s.heap s.heap [] := va_S.rf
  have hl : lv_has ls 2 [(0, .ref (K 0))] := hl
  refine lv_iconst (v := 0) hx hb d_Model_erase_0 (by decide) ?_
  refine lv_istore_n (lv' := [(1, .int 0), (0, .ref (K 0))]) hx hb d_Model_erase_1 rfl hl (by decide) rfl (fun ls hl => ?_)
  have lp : ∀ (n9 : Nat) (k : Nat) (g : Nat → Int32) (z : hv_W), 160 - k < n9 → (k ≤ 160) → (mK ca K w0 A (B.sThere g) z) → (∀ j, j < k → g j = 0) → (∀ i, 160 ≤ i → g i = B.there i) → ∀ (H : Heap) (locs : List Loc) (ls : Array Slot), hv_P D classes s0.heap.size z H → va_S (hv_A s0.heap.size) s.heap H locs → lv_has ls 2 [(0, .ref (K 0)), (1, .int (nI k))] → W p l e rm_Model_erase s m ([.ref (K 0)] : List Value).toArray below meth c H locs 0 0 Q (F0 m 2 ls []) := by
    intro n9
    induction n9 with
    | zero =>
      intro k g z hn9
      exact absurd hn9 (Nat.not_lt_zero _)
    | succ n9 ih =>
      intro k g z hn9 hk hM hj ho H locs ls hP hS hl
      refine lv_iload_n hx hb d_Model_erase_2 rfl (lv_at hl 1 rfl) ?_
      refine lv_sipush (v := 160) hx hb d_Model_erase_3 (by decide) ?_
      refine gk_icmp_ge (x := k) (y := 160) (tgt := 22) hx hb d_Model_erase_6 (by decide) (by omega) (by omega) (fun c6 => ?_) (fun c6 => ?_)
      · exact hv_vret hQ hx hb hr hZ hS hP hlocks d_Model_erase_22 (⟨rfl, g, hM, fun i hi => hj i (by omega), ho⟩)
      · refine lv_aload_n hx hb d_Model_erase_9 rfl (lv_at hl 0 rfl) ?_
        have h1 : z (K 0) = some (.inr (7, [.int A.thrown, .ref (K 1), .ref (K 2), .ref (K 3), .ref (K 4), .ref (K 5), .ref (K 6), .ref (K 7), .ref (K 8), .ref (K 9), .ref (K 10), .ref (K 11), .ref (K 12), .int (nI A.tapeSize), .ref (K 13), .int A.error, .int A.off, .int A.inside, .int (nI A.changes), .int (nI A.earlier), .int (nI A.logged), .int A.over, .int (nI A.loose), .int A.written, .int (nI A.due)])) := hM.1.2 0 (by decide)
        refine va_get (D := D) (ci := 7) (v := .ref (K 1)) (C := R_Model) (T := F_Model) (N := 25) hx hb hts i_Model hown hK (hv_one hP h1) 0 rfl rfl 1 (by decide) (hts _ k_Model_7) (fun _ h9 => h9) rfl d_Model_erase_10 ?_
        refine lv_iload_n hx hb d_Model_erase_13 rfl (lv_at hl 1 rfl) ?_
        refine lv_iconst (v := 0) hx hb d_Model_erase_14 (by decide) ?_
        have h2 : z (K 1) = some (.inl (ca 2, 640, .inl g)) := hM.1.2 1 (by decide)
        refine hv_zast hx hb hK hP hS 2 h2 rfl (vp_in_nI (n := k) (by omega) (by omega)) d_Model_erase_15 (fun H locs hP hS => ?_)
        rw [nI_clamp (n := k) (by omega)] at hP
        obtain ⟨w3, ew3⟩ : ∃ z9 : hv_W, z9 = va_up z (K 1) (some (.inl (ca 2, 640, .inl (upd g k (vp_nar .boolean 0))))) := ⟨_, rfl⟩
        have hP : hv_P D classes s0.heap.size w3 H := by rw [ew3]; exact hP
        have hM : mK ca K w0 A (B.sThere (upd g k (vp_nar .boolean 0))) w3 := by rw [ew3]; exact hM.put 1 (by decide) rfl
        have h4 : w3 (K 1) = some (.inl (ca 2, 640, .inl (upd g k (vp_nar .boolean 0)))) := by rw [ew3]; exact hv_up_s
        refine lv_iinc (v := (nI (k + 1))) (lv' := [(1, .int ((nI (k + 1)))), (0, .ref (K 0))]) hx hb d_Model_erase_16 hl (k := 1) rfl (nI_add k 1) (by decide) rfl (fun ls hl => ?_)
        refine lv_goto (tgt := 2) hx hb d_Model_erase_19 (by decide) ?_
        exact ih (k + 1) (upd g k (vp_nar .boolean 0)) w3 (by omega) (by omega) hM (gk_fillI (f := fun _ => 0) hj (by decide +kernel)) (fun i hi => (pk_un (by omega)).trans (ho i hi)) _ _ _ hP hS (lv_sub hl [1, 0] rfl)
  exact lp _ 0 B.there w (Nat.lt_succ_self _) (Nat.zero_le _) hM (fun j q => absurd q (Nat.not_lt_zero _)) (fun _ _ => rfl) _ _ _ hP hS (lv_sub hl [1, 0] rfl)

abbrev rm_Model_settle : Room := { frames := 0, cells := 0, slots := 0, locals := 0 }
set_option maxHeartbeats 4000000 in
set_option maxRecDepth 100000 in
theorem c_Model_settle {l : Launch} {s0 : State} {D : va_G} {ca : Nat → ClassId} (C : hv_C l s0 D (hv_tys ca)) {w : hv_W} {K : Nat → Nat} {w0 : hv_W} {A : mA} {B : mB} (hM : mK ca K w0 A B w)  :
    hv_Met l y_Model_settle [.code y_Model_settle b_Model_settle 2 none] rm_Model_settle (hv_Pc s0 D w [.ref (K 0)]) (hv_Q s0 D (fun v w' => v = none ∧ ∃ g, mK ca K w0 ((A.sChanges 0).sTaken g) B w' ∧ ∀ i, i < 160 → g i = 0) (fun _ _ => False)) 0 0 (hv_A s0.heap.size) := by
  refine hv_enter C _ (by decide) (Nat.le_of_ble_eq_true rfl) ?_
  intro p e s m below meth c ls Q hQ hx hb hr hml hown hts hK hZ hlocks hname hout htr hP hl
  have hown : s.vm.findClass R_Model = some m.cls := hown
  have hS : va_S (hv_A s0.heap.size) s.heap s.heap [] := va_S.rf
  have hl : lv_has ls 2 [(0, .ref (K 0))] := hl
  refine lv_aload_n hx hb d_Model_settle_0 rfl (lv_at hl 0 rfl) ?_
  refine lv_iconst (v := 0) hx hb d_Model_settle_1 (by decide) ?_
  have h1 : w (K 0) = some (.inr (7, [.int A.thrown, .ref (K 1), .ref (K 2), .ref (K 3), .ref (K 4), .ref (K 5), .ref (K 6), .ref (K 7), .ref (K 8), .ref (K 9), .ref (K 10), .ref (K 11), .ref (K 12), .int (nI A.tapeSize), .ref (K 13), .int A.error, .int A.off, .int A.inside, .int (nI A.changes), .int (nI A.earlier), .int (nI A.logged), .int A.over, .int (nI A.loose), .int A.written, .int (nI A.due)])) := hM.1.2 0 (by decide)
  refine hv_put (D := D) (ci := 7) (v := .int 0) (ty := .int) (C := R_Model) (T := F_Model) (N := 25) hx hb hts i_Model t_Model t_Model_ok n_Model hown hK hP hS h1 rfl 18 (by decide) (hts _ k_Model_59) (fun _ h9 => h9) rfl (by decide +kernel) rfl rfl (Nat.le_of_ble_eq_true rfl) d_Model_settle_2 (fun H locs hP hS => ?_)
  obtain ⟨w2, ew2⟩ : ∃ z9 : hv_W, z9 = va_up w (K 0) (some (.inr (7, [.int A.thrown, .ref (K 1), .ref (K 2), .ref (K 3), .ref (K 4), .ref (K 5), .ref (K 6), .ref (K 7), .ref (K 8), .ref (K 9), .ref (K 10), .ref (K 11), .ref (K 12), .int (nI A.tapeSize), .ref (K 13), .int A.error, .int A.off, .int A.inside, .int 0, .int (nI A.earlier), .int (nI A.logged), .int A.over, .int (nI A.loose), .int A.written, .int (nI A.due)]))) := ⟨_, rfl⟩
  have hP : hv_P D classes s0.heap.size w2 H := by rw [ew2]; exact hP
  have hM : mK ca K w0 (A.sChanges 0) B w2 := by rw [ew2]; exact hM.put 0 (by decide) rfl
  have h3 : w2 (K 0) = some (.inr (7, [.int A.thrown, .ref (K 1), .ref (K 2), .ref (K 3), .ref (K 4), .ref (K 5), .ref (K 6), .ref (K 7), .ref (K 8), .ref (K 9), .ref (K 10), .ref (K 11), .ref (K 12), .int (nI A.tapeSize), .ref (K 13), .int A.error, .int A.off, .int A.inside, .int 0, .int (nI A.earlier), .int (nI A.logged), .int A.over, .int (nI A.loose), .int A.written, .int (nI A.due)])) := by rw [ew2]; exact hv_up_s
  refine lv_iconst (v := 0) hx hb d_Model_settle_5 (by decide) ?_
  refine lv_istore_n (lv' := [(1, .int 0), (0, .ref (K 0))]) hx hb d_Model_settle_6 rfl hl (by decide) rfl (fun ls hl => ?_)
  have lp : ∀ (n9 : Nat) (k : Nat) (g : Nat → Int32) (z : hv_W), 160 - k < n9 → (k ≤ 160) → (mK ca K w0 ((A.sChanges 0).sTaken g) B z) → (∀ j, j < k → g j = 0) → ∀ (H : Heap) (locs : List Loc) (ls : Array Slot), hv_P D classes s0.heap.size z H → va_S (hv_A s0.heap.size) s.heap H locs → lv_has ls 2 [(0, .ref (K 0)), (1, .int (nI k))] → W p l e rm_Model_settle s m ([.ref (K 0)] : List Value).toArray below meth c H locs 0 0 Q (F0 m 7 ls []) := by
    intro n9
    induction n9 with
    | zero =>
      intro k g z hn9
      exact absurd hn9 (Nat.not_lt_zero _)
    | succ n9 ih =>
      intro k g z hn9 hk hM hj H locs ls hP hS hl
      refine lv_iload_n hx hb d_Model_settle_7 rfl (lv_at hl 1 rfl) ?_
      refine lv_sipush (v := 160) hx hb d_Model_settle_8 (by decide) ?_
      refine gk_icmp_ge (x := k) (y := 160) (tgt := 27) hx hb d_Model_settle_11 (by decide) (by omega) (by omega) (fun c11 => ?_) (fun c11 => ?_)
      · exact hv_vret hQ hx hb hr hZ hS hP hlocks d_Model_settle_27 (⟨rfl, g, hM, fun i hi => hj i (by omega)⟩)
      · refine lv_aload_n hx hb d_Model_settle_14 rfl (lv_at hl 0 rfl) ?_
        have h4 : z (K 0) = some (.inr (7, [.int A.thrown, .ref (K 1), .ref (K 2), .ref (K 3), .ref (K 4), .ref (K 5), .ref (K 6), .ref (K 7), .ref (K 8), .ref (K 9), .ref (K 10), .ref (K 11), .ref (K 12), .int (nI A.tapeSize), .ref (K 13), .int A.error, .int A.off, .int A.inside, .int (nI 0), .int (nI A.earlier), .int (nI A.logged), .int A.over, .int (nI A.loose), .int A.written, .int (nI A.due)])) := hM.1.2 0 (by decide)
        refine va_get (D := D) (ci := 7) (v := .ref (K 12)) (C := R_Model) (T := F_Model) (N := 25) hx hb hts i_Model hown hK (hv_one hP h4) 0 rfl rfl 12 (by decide) (hts _ k_Model_45) (fun _ h9 => h9) rfl d_Model_settle_15 ?_
        refine lv_iload_n hx hb d_Model_settle_18 rfl (lv_at hl 1 rfl) ?_
        refine lv_iconst (v := 0) hx hb d_Model_settle_19 (by decide) ?_
        have h5 : z (K 12) = some (.inl (ca 2, 160, .inl g)) := hM.1.2 12 (by decide)
        refine hv_zast hx hb hK hP hS 2 h5 rfl (vp_in_nI (n := k) (by omega) (by omega)) d_Model_settle_20 (fun H locs hP hS => ?_)
        rw [nI_clamp (n := k) (by omega)] at hP
        obtain ⟨w6, ew6⟩ : ∃ z9 : hv_W, z9 = va_up z (K 12) (some (.inl (ca 2, 160, .inl (upd g k (vp_nar .boolean 0))))) := ⟨_, rfl⟩
        have hP : hv_P D classes s0.heap.size w6 H := by rw [ew6]; exact hP
        have hM : mK ca K w0 ((A.sChanges 0).sTaken (upd g k (vp_nar .boolean 0))) B w6 := by rw [ew6]; exact hM.put 12 (by decide) rfl
        have h7 : w6 (K 12) = some (.inl (ca 2, 160, .inl (upd g k (vp_nar .boolean 0)))) := by rw [ew6]; exact hv_up_s
        refine lv_iinc (v := (nI (k + 1))) (lv' := [(1, .int ((nI (k + 1)))), (0, .ref (K 0))]) hx hb d_Model_settle_21 hl (k := 1) rfl (nI_add k 1) (by decide) rfl (fun ls hl => ?_)
        refine lv_goto (tgt := 7) hx hb d_Model_settle_24 (by decide) ?_
        exact ih (k + 1) (upd g k (vp_nar .boolean 0)) w6 (by omega) (by omega) hM (gk_fillI (f := fun _ => 0) hj (by decide +kernel)) _ _ _ hP hS (lv_sub hl [1, 0] rfl)
  exact lp _ 0 A.taken w2 (Nat.lt_succ_self _) (Nat.zero_le _) hM (fun j q => absurd q (Nat.not_lt_zero _)) _ _ _ hP hS (lv_sub hl [1, 0] rfl)

abbrev rm_Model_find : Room := { frames := 0, cells := 0, slots := 0, locals := 0 }
set_option maxHeartbeats 4000000 in
set_option maxRecDepth 100000 in
theorem c_Model_find {l : Launch} {s0 : State} {D : va_G} {ca : Nat → ClassId} (C : hv_C l s0 D (hv_tys ca)) {w : hv_W} {K : Nat → Nat} {w0 : hv_W} {A : mA} {B : mB} (k n : Int32) (hM : mK ca K w0 A B w)  :
    hv_Met l y_Model_find [.code y_Model_find b_Model_find 5 (some .int)] rm_Model_find (hv_Pc s0 D w [.ref (K 0), .int k, .int n]) (hv_Q s0 D (fun v w' => v = some (.int (m_find B k n)) ∧ w' = w) (fun _ _ => False)) 0 0 (hv_A s0.heap.size) := by
  refine hv_enter C _ (by decide) (Nat.le_of_ble_eq_true rfl) ?_
  intro p e s m below meth c ls Q hQ hx hb hr hml hown hts hK hZ hlocks hname hout htr hP hl
  have hown : s.vm.findClass R_Model = some m.cls := hown
  have hS : va_S (hv_A s0.heap.size) s.heap s.heap [] := va_S.rf
  have hl : lv_has ls 5 [(0, .ref (K 0)), (1, .int k), (2, .int n)] := hl
  have h1 : w (K 0) = some (.inr (7, [.int A.thrown, .ref (K 1), .ref (K 2), .ref (K 3), .ref (K 4), .ref (K 5), .ref (K 6), .ref (K 7), .ref (K 8), .ref (K 9), .ref (K 10), .ref (K 11), .ref (K 12), .int (nI A.tapeSize), .ref (K 13), .int A.error, .int A.off, .int A.inside, .int (nI A.changes), .int (nI A.earlier), .int (nI A.logged), .int A.over, .int (nI A.loose), .int A.written, .int (nI A.due)])) := hM.1.2 0 (by decide)
  refine lv_iload_n hx hb d_Model_find_0 rfl (lv_at hl 1 rfl) ?_
  refine lv_iconst (v := 4) hx hb d_Model_find_1 (by decide) ?_
  refine lv_icmp_ne (tgt := 23) hx hb d_Model_find_2 (by decide) (fun c2 => ?_) (fun c2 => ?_)
  · refine lv_iload_n hx hb d_Model_find_23 rfl (lv_at hl 1 rfl) ?_
    refine lv_iconst (v := 5) hx hb d_Model_find_24 (by decide) ?_
    refine lv_icmp_ne (tgt := 42) hx hb d_Model_find_25 (by decide) (fun c25 => ?_) (fun c25 => ?_)
    · refine lv_iconst (v := 0) hx hb d_Model_find_42 (by decide) ?_
      refine lv_istore_n (lv' := [(3, .int 0), (0, .ref (K 0)), (1, .int k), (2, .int n)]) hx hb d_Model_find_43 rfl hl (by decide) rfl (fun ls hl => ?_)
      refine lv_iload_n hx hb d_Model_find_44 rfl (lv_at hl 2 rfl) ?_
      refine lv_iconst (v := 5) hx hb d_Model_find_45 (by decide) ?_
      refine lv_icmp_ne (tgt := 56) hx hb d_Model_find_46 (by decide) (fun c46 => ?_) (fun c46 => ?_)
      · refine lv_iload_n hx hb d_Model_find_56 rfl (lv_at hl 3 rfl) ?_
        refine lv_istore (lv' := [(4, .int n), (3, .int 0), (0, .ref (K 0)), (1, .int k), (2, .int n)]) hx hb d_Model_find_57 hl (by decide) rfl (fun ls hl => ?_)
        refine lv_iload_n hx hb d_Model_find_59 rfl (lv_at hl 1 rfl) ?_
        refine lv_if_eq (tgt := 86) hx hb d_Model_find_60 (by decide) (fun c60 => ?_) (fun c60 => ?_)
        · refine lv_iconst (v := (-1)) hx hb d_Model_find_86 (by decide) ?_
          exact hv_iret (v := (-1)) hQ hx hb hr hZ hS hP hlocks d_Model_find_87 (⟨by rw [m_find, m_idxn c2 c25], rfl⟩)
        · exact absurd c60 (by decide)
      · exact absurd c46 c25
    · refine lv_iload_n hx hb d_Model_find_28 rfl (lv_at hl 2 rfl) ?_
      refine lv_if_lt (tgt := 42) hx hb d_Model_find_29 (by decide) (fun c29 => ?_) (fun c29 => ?_)
      · refine lv_iconst (v := 0) hx hb d_Model_find_42 (by decide) ?_
        refine lv_istore_n (lv' := [(3, .int 0), (0, .ref (K 0)), (1, .int k), (2, .int n)]) hx hb d_Model_find_43 rfl hl (by decide) rfl (fun ls hl => ?_)
        refine lv_iload_n hx hb d_Model_find_44 rfl (lv_at hl 2 rfl) ?_
        refine lv_iconst (v := 5) hx hb d_Model_find_45 (by decide) ?_
        refine lv_icmp_ne (tgt := 56) hx hb d_Model_find_46 (by decide) (fun c46 => ?_) (fun c46 => ?_)
        · exact absurd c25 c46
        · refine lv_bipush (v := 64) hx hb d_Model_find_49 (by decide) ?_
          refine lv_iload_n hx hb d_Model_find_51 rfl (lv_at hl 3 rfl) ?_
          refine lv_iadd hx hb d_Model_find_52 ?_
          refine lv_goto (tgt := 57) hx hb d_Model_find_53 (by decide) ?_
          refine lv_istore (lv' := [(4, .int (64 + n)), (3, .int 0), (0, .ref (K 0)), (1, .int k), (2, .int n)]) hx hb d_Model_find_57 hl (by decide) rfl (fun ls hl => ?_)
          refine lv_iload_n hx hb d_Model_find_59 rfl (lv_at hl 1 rfl) ?_
          refine lv_if_eq (tgt := 86) hx hb d_Model_find_60 (by decide) (fun c60 => ?_) (fun c60 => ?_)
          · refine lv_iconst (v := (-1)) hx hb d_Model_find_86 (by decide) ?_
            exact hv_iret (v := (-1)) hQ hx hb hr hZ hS hP hlocks d_Model_find_87 (⟨by rw [m_find, m_idx5 c25, if_pos (Or.inl c29)], rfl⟩)
          · exact absurd c60 (by decide)
      · refine lv_iload_n hx hb d_Model_find_32 rfl (lv_at hl 2 rfl) ?_
        refine lv_bipush (v := 96) hx hb d_Model_find_33 (by decide) ?_
        refine lv_icmp_ge (tgt := 42) hx hb d_Model_find_35 (by decide) (fun c35 => ?_) (fun c35 => ?_)
        · refine lv_iconst (v := 0) hx hb d_Model_find_42 (by decide) ?_
          refine lv_istore_n (lv' := [(3, .int 0), (0, .ref (K 0)), (1, .int k), (2, .int n)]) hx hb d_Model_find_43 rfl hl (by decide) rfl (fun ls hl => ?_)
          refine lv_iload_n hx hb d_Model_find_44 rfl (lv_at hl 2 rfl) ?_
          refine lv_iconst (v := 5) hx hb d_Model_find_45 (by decide) ?_
          refine lv_icmp_ne (tgt := 56) hx hb d_Model_find_46 (by decide) (fun c46 => ?_) (fun c46 => ?_)
          · exact absurd c25 c46
          · refine lv_bipush (v := 64) hx hb d_Model_find_49 (by decide) ?_
            refine lv_iload_n hx hb d_Model_find_51 rfl (lv_at hl 3 rfl) ?_
            refine lv_iadd hx hb d_Model_find_52 ?_
            refine lv_goto (tgt := 57) hx hb d_Model_find_53 (by decide) ?_
            refine lv_istore (lv' := [(4, .int (64 + n)), (3, .int 0), (0, .ref (K 0)), (1, .int k), (2, .int n)]) hx hb d_Model_find_57 hl (by decide) rfl (fun ls hl => ?_)
            refine lv_iload_n hx hb d_Model_find_59 rfl (lv_at hl 1 rfl) ?_
            refine lv_if_eq (tgt := 86) hx hb d_Model_find_60 (by decide) (fun c60 => ?_) (fun c60 => ?_)
            · refine lv_iconst (v := (-1)) hx hb d_Model_find_86 (by decide) ?_
              exact hv_iret (v := (-1)) hQ hx hb hr hZ hS hP hlocks d_Model_find_87 (⟨by rw [m_find, m_idx5 c25, if_pos (Or.inr c35)], rfl⟩)
            · exact absurd c60 (by decide)
        · obtain ⟨i, hi, he⟩ := vp_in_of (gk_in (N := 96) c29 c35 (by decide)) (by decide)
          subst he
          refine lv_iconst (v := 1) hx hb d_Model_find_38 (by decide) ?_
          refine lv_goto (tgt := 43) hx hb d_Model_find_39 (by decide) ?_
          refine lv_istore_n (lv' := [(3, .int 1), (0, .ref (K 0)), (1, .int k), (2, .int (nI i))]) hx hb d_Model_find_43 rfl hl (by decide) rfl (fun ls hl => ?_)
          refine lv_iload_n hx hb d_Model_find_44 rfl (lv_at hl 2 rfl) ?_
          refine lv_iconst (v := 5) hx hb d_Model_find_45 (by decide) ?_
          refine lv_icmp_ne (tgt := 56) hx hb d_Model_find_46 (by decide) (fun c46 => ?_) (fun c46 => ?_)
          · exact absurd c25 c46
          · refine lv_bipush (v := 64) hx hb d_Model_find_49 (by decide) ?_
            refine lv_iload_n hx hb d_Model_find_51 rfl (lv_at hl 3 rfl) ?_
            refine gk_iadd (x := 64) (y := i) hx hb d_Model_find_52 ?_
            refine lv_goto (tgt := 57) hx hb d_Model_find_53 (by decide) ?_
            refine lv_istore (lv' := [(4, .int (nI (64 + i))), (3, .int 1), (0, .ref (K 0)), (1, .int k), (2, .int (nI i))]) hx hb d_Model_find_57 hl (by decide) rfl (fun ls hl => ?_)
            refine lv_iload_n hx hb d_Model_find_59 rfl (lv_at hl 1 rfl) ?_
            refine lv_if_eq (tgt := 86) hx hb d_Model_find_60 (by decide) (fun c60 => ?_) (fun c60 => ?_)
            · exact absurd c60 (by decide)
            · refine lv_aload_n hx hb d_Model_find_63 rfl (lv_at hl 2 rfl) ?_
              refine va_get (D := D) (ci := 7) (v := .ref (K 1)) (C := R_Model) (T := F_Model) (N := 25) hx hb hts i_Model hown hK (hv_one hP h1) 0 rfl rfl 1 (by decide) (hts _ k_Model_7) (fun _ h9 => h9) rfl d_Model_find_64 ?_
              refine lv_iload_n hx hb d_Model_find_67 rfl (lv_at hl 1 rfl) ?_
              refine lv_if_eq (tgt := 76) hx hb d_Model_find_68 (by decide) (fun c68 => ?_) (fun c68 => ?_)
              · exact absurd c68 (by decide)
              · refine lv_iload hx hb d_Model_find_71 (lv_at hl 0 rfl) ?_
                refine lv_goto (tgt := 77) hx hb d_Model_find_73 (by decide) ?_
                have h2 : w (K 1) = some (.inl (ca 2, 640, .inl B.there)) := hM.1.2 1 (by decide)
                refine va_zald hx hb hK (hv_one hP h2) 0 2 rfl rfl (vp_in_nI (n := 64 + i) (by omega) (by omega)) d_Model_find_77 ?_
                rw [nI_clamp (n := 64 + i) (by omega)]
                refine lv_if_eq (tgt := 86) hx hb d_Model_find_78 (by decide) (fun c78 => ?_) (fun c78 => ?_)
                · refine lv_iconst (v := (-1)) hx hb d_Model_find_86 (by decide) ?_
                  exact hv_iret (v := (-1)) hQ hx hb hr hZ hS hP hlocks d_Model_find_87 (⟨by rw [m_find, m_idx5n c25 hi]; dsimp only; rw [if_pos c78], rfl⟩)
                · refine lv_iload hx hb d_Model_find_81 (lv_at hl 0 rfl) ?_
                  refine lv_goto (tgt := 87) hx hb d_Model_find_83 (by decide) ?_
                  exact hv_iret (v := nI (64 + i)) hQ hx hb hr hZ hS hP hlocks d_Model_find_87 (⟨by rw [m_find, m_idx5n c25 hi]; dsimp only; rw [if_neg c78], rfl⟩)
  · refine lv_iload_n hx hb d_Model_find_5 rfl (lv_at hl 2 rfl) ?_
    refine lv_if_lt (tgt := 19) hx hb d_Model_find_6 (by decide) (fun c6 => ?_) (fun c6 => ?_)
    · refine lv_iconst (v := 0) hx hb d_Model_find_19 (by decide) ?_
      refine lv_goto (tgt := 43) hx hb d_Model_find_20 (by decide) ?_
      refine lv_istore_n (lv' := [(3, .int 0), (0, .ref (K 0)), (1, .int k), (2, .int n)]) hx hb d_Model_find_43 rfl hl (by decide) rfl (fun ls hl => ?_)
      refine lv_iload_n hx hb d_Model_find_44 rfl (lv_at hl 2 rfl) ?_
      refine lv_iconst (v := 5) hx hb d_Model_find_45 (by decide) ?_
      refine lv_icmp_ne (tgt := 56) hx hb d_Model_find_46 (by decide) (fun c46 => ?_) (fun c46 => ?_)
      · refine lv_iload_n hx hb d_Model_find_56 rfl (lv_at hl 3 rfl) ?_
        refine lv_istore (lv' := [(4, .int n), (3, .int 0), (0, .ref (K 0)), (1, .int k), (2, .int n)]) hx hb d_Model_find_57 hl (by decide) rfl (fun ls hl => ?_)
        refine lv_iload_n hx hb d_Model_find_59 rfl (lv_at hl 1 rfl) ?_
        refine lv_if_eq (tgt := 86) hx hb d_Model_find_60 (by decide) (fun c60 => ?_) (fun c60 => ?_)
        · refine lv_iconst (v := (-1)) hx hb d_Model_find_86 (by decide) ?_
          exact hv_iret (v := (-1)) hQ hx hb hr hZ hS hP hlocks d_Model_find_87 (⟨by rw [m_find, m_idx4 c2, if_pos (Or.inl c6)], rfl⟩)
        · exact absurd c60 (by decide)
      · exact absurd (c2.symm.trans c46) (by decide)
    · refine lv_iload_n hx hb d_Model_find_9 rfl (lv_at hl 2 rfl) ?_
      refine lv_bipush (v := 64) hx hb d_Model_find_10 (by decide) ?_
      refine lv_icmp_ge (tgt := 19) hx hb d_Model_find_12 (by decide) (fun c12 => ?_) (fun c12 => ?_)
      · refine lv_iconst (v := 0) hx hb d_Model_find_19 (by decide) ?_
        refine lv_goto (tgt := 43) hx hb d_Model_find_20 (by decide) ?_
        refine lv_istore_n (lv' := [(3, .int 0), (0, .ref (K 0)), (1, .int k), (2, .int n)]) hx hb d_Model_find_43 rfl hl (by decide) rfl (fun ls hl => ?_)
        refine lv_iload_n hx hb d_Model_find_44 rfl (lv_at hl 2 rfl) ?_
        refine lv_iconst (v := 5) hx hb d_Model_find_45 (by decide) ?_
        refine lv_icmp_ne (tgt := 56) hx hb d_Model_find_46 (by decide) (fun c46 => ?_) (fun c46 => ?_)
        · refine lv_iload_n hx hb d_Model_find_56 rfl (lv_at hl 3 rfl) ?_
          refine lv_istore (lv' := [(4, .int n), (3, .int 0), (0, .ref (K 0)), (1, .int k), (2, .int n)]) hx hb d_Model_find_57 hl (by decide) rfl (fun ls hl => ?_)
          refine lv_iload_n hx hb d_Model_find_59 rfl (lv_at hl 1 rfl) ?_
          refine lv_if_eq (tgt := 86) hx hb d_Model_find_60 (by decide) (fun c60 => ?_) (fun c60 => ?_)
          · refine lv_iconst (v := (-1)) hx hb d_Model_find_86 (by decide) ?_
            exact hv_iret (v := (-1)) hQ hx hb hr hZ hS hP hlocks d_Model_find_87 (⟨by rw [m_find, m_idx4 c2, if_pos (Or.inr c12)], rfl⟩)
          · exact absurd c60 (by decide)
        · exact absurd (c2.symm.trans c46) (by decide)
      · obtain ⟨i, hi, he⟩ := vp_in_of (gk_in (N := 64) c6 c12 (by decide)) (by decide)
        subst he
        refine lv_iconst (v := 1) hx hb d_Model_find_15 (by decide) ?_
        refine lv_goto (tgt := 43) hx hb d_Model_find_16 (by decide) ?_
        refine lv_istore_n (lv' := [(3, .int 1), (0, .ref (K 0)), (1, .int k), (2, .int (nI i))]) hx hb d_Model_find_43 rfl hl (by decide) rfl (fun ls hl => ?_)
        refine lv_iload_n hx hb d_Model_find_44 rfl (lv_at hl 2 rfl) ?_
        refine lv_iconst (v := 5) hx hb d_Model_find_45 (by decide) ?_
        refine lv_icmp_ne (tgt := 56) hx hb d_Model_find_46 (by decide) (fun c46 => ?_) (fun c46 => ?_)
        · refine lv_iload_n hx hb d_Model_find_56 rfl (lv_at hl 3 rfl) ?_
          refine lv_istore (lv' := [(4, .int (nI i)), (3, .int 1), (0, .ref (K 0)), (1, .int k), (2, .int (nI i))]) hx hb d_Model_find_57 hl (by decide) rfl (fun ls hl => ?_)
          refine lv_iload_n hx hb d_Model_find_59 rfl (lv_at hl 1 rfl) ?_
          refine lv_if_eq (tgt := 86) hx hb d_Model_find_60 (by decide) (fun c60 => ?_) (fun c60 => ?_)
          · exact absurd c60 (by decide)
          · refine lv_aload_n hx hb d_Model_find_63 rfl (lv_at hl 2 rfl) ?_
            refine va_get (D := D) (ci := 7) (v := .ref (K 1)) (C := R_Model) (T := F_Model) (N := 25) hx hb hts i_Model hown hK (hv_one hP h1) 0 rfl rfl 1 (by decide) (hts _ k_Model_7) (fun _ h9 => h9) rfl d_Model_find_64 ?_
            refine lv_iload_n hx hb d_Model_find_67 rfl (lv_at hl 1 rfl) ?_
            refine lv_if_eq (tgt := 76) hx hb d_Model_find_68 (by decide) (fun c68 => ?_) (fun c68 => ?_)
            · exact absurd c68 (by decide)
            · refine lv_iload hx hb d_Model_find_71 (lv_at hl 0 rfl) ?_
              refine lv_goto (tgt := 77) hx hb d_Model_find_73 (by decide) ?_
              have h3 : w (K 1) = some (.inl (ca 2, 640, .inl B.there)) := hM.1.2 1 (by decide)
              refine va_zald hx hb hK (hv_one hP h3) 0 2 rfl rfl (vp_in_nI (n := i) (by omega) (by omega)) d_Model_find_77 ?_
              rw [nI_clamp (n := i) (by omega)]
              refine lv_if_eq (tgt := 86) hx hb d_Model_find_78 (by decide) (fun c78 => ?_) (fun c78 => ?_)
              · refine lv_iconst (v := (-1)) hx hb d_Model_find_86 (by decide) ?_
                exact hv_iret (v := (-1)) hQ hx hb hr hZ hS hP hlocks d_Model_find_87 (⟨by rw [m_find, m_idx4n c2 hi]; dsimp only; rw [if_pos c78], rfl⟩)
              · refine lv_iload hx hb d_Model_find_81 (lv_at hl 0 rfl) ?_
                refine lv_goto (tgt := 87) hx hb d_Model_find_83 (by decide) ?_
                exact hv_iret (v := nI i) hQ hx hb hr hZ hS hP hlocks d_Model_find_87 (⟨by rw [m_find, m_idx4n c2 hi]; dsimp only; rw [if_neg c78], rfl⟩)
        · exact absurd (c2.symm.trans c46) (by decide)

