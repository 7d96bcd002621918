set_option maxHeartbeats 4000000 in
set_option maxRecDepth 100000 in
theorem lc_type {p : Program} {l : Launch} {e : Env} {s : State} {m : MethodId} {below : List Frame} {meth : Method} {c : Code} {D : va_G} {ca : Nat → ClassId} {b n0 : Nat} {xs : Nat → Int32} {Q : State → Prop} (F : lF l s D ca p m c b n0 xs) {L K : Nat → Nat} {o9 i cells slots : Nat} (hi : i + 7 ≤ n0) (hcl : cells + 9 ≤ 601024) (hsl : slots + 69 ≤ 7293034) (kk : lKK p l e s m below meth c D ca L K o9 b i cells slots Q)
    {w : hv_W} {σ : gS} {f9 : Nat → Int64} (I : lI ca L K o9 σ f9 w) {H : Heap} {locs : List Loc} {ls : Array Slot} (hP : hv_P D classes s.heap.size w H) (hS : va_S (hv_A s.heap.size) s.heap H locs) (hl : lv_has ls 8 (lLoc b L K o9 i)) : W p l e room_1 s m #[Value.ref b] below meth c H locs cells slots Q (F0 m 136 ls []) := by
  obtain ⟨C, N, hx, hb, hml, hown, hts, hX, hbl, hn0⟩ := F
  have hK : va_K D classes (hv_tys ca) s := C.1
  have hZ : hv_Z s s := hv_Z.refl s
  have hbA : ¬ hv_A s.heap.size b := Nat.not_le.mpr hbl
  have hl : lv_has ls 8 [(0, .ref b), (1, .ref (L 0)), (2, .ref (K 0)), (3, .ref o9), (4, .int (nI i))] := hl
  obtain ⟨hgx, hJ⟩ := I
  have hW : gW σ := hgx.1
  obtain ⟨⟨P, hM, hR⟩, -, ho9, hap⟩ := id hJ
  have hlo : ¬ cM L o9 := hap.2.2.1
  have h0 : w (L 0) = some (.inr (0, [.ref (L 1), .ref (L 2), .ref (L 3), .ref (L 4), .ref (L 5), .ref (L 6), .ref (L 7), .int (σ.err), .int (nI σ.sc), .int (nI σ.ec), .int (σ.ins), .int (σ.off)])) := hM.1.2 0 (by decide)
  refine lv_aload_n hx hb d_Law_law_136 rfl (lv_at hl 1 rfl) ?_
  refine lv_aload_n hx hb d_Law_law_137 rfl (lv_at hl 0 rfl) ?_
  refine lv_iload hx hb d_Law_law_138 (lv_at hl 4 rfl) ?_
  refine lv_iconst (v := 1) hx hb d_Law_law_140 (by decide) ?_
  refine gk_iadd (x := i) (y := 1) hx hb d_Law_law_141 ?_
  refine va_sld hx hb hX hbl hbA hS (vp_in_nI (n := i + 1) (by omega) (by omega)) d_Law_law_142 ?_
  rw [nI_clamp (n := i + 1) (by omega)]
  refine lv_i2l (v := (xs (i + 1)).toInt64) hx hb d_Law_law_143 rfl ?_
  refine lv_bipush (v := 32) hx hb d_Law_law_144 (by decide) ?_
  refine lv_lshl (v := ((xs (i + 1)).toInt64) <<< ((32 : Int32).toInt64 &&& 63)) hx hb d_Law_law_146 rfl ?_
  refine lv_aload_n hx hb d_Law_law_147 rfl (lv_at hl 0 rfl) ?_
  refine lv_iload hx hb d_Law_law_148 (lv_at hl 4 rfl) ?_
  refine lv_iconst (v := 2) hx hb d_Law_law_150 (by decide) ?_
  refine gk_iadd (x := i) (y := 2) hx hb d_Law_law_151 ?_
  refine va_sld hx hb hX hbl hbA hS (vp_in_nI (n := i + 2) (by omega) (by omega)) d_Law_law_152 ?_
  rw [nI_clamp (n := i + 2) (by omega)]
  refine lv_i2l (v := (xs (i + 2)).toInt64) hx hb d_Law_law_153 rfl ?_
  refine lv_ldc2 (v := 4294967295) hx hb hown (hts _ k_Law_52) d_Law_law_154 ?_
  refine lv_land hx hb d_Law_law_157 ?_
  refine lv_lor hx hb d_Law_law_158 ?_
  refine lv_aload_n hx hb d_Law_law_159 rfl (lv_at hl 0 rfl) ?_
  refine lv_iload hx hb d_Law_law_160 (lv_at hl 4 rfl) ?_
  refine lv_iconst (v := 3) hx hb d_Law_law_162 (by decide) ?_
  refine gk_iadd (x := i) (y := 3) hx hb d_Law_law_163 ?_
  refine va_sld hx hb hX hbl hbA hS (vp_in_nI (n := i + 3) (by omega) (by omega)) d_Law_law_164 ?_
  rw [nI_clamp (n := i + 3) (by omega)]
  refine hv_call (hv_runV (As := [.long ((((xs (i + 1)).toInt64) <<< ((32 : Int32).toInt64 &&& 63)) ||| (((xs (i + 2)).toInt64) &&& 4294967295)), .int (xs (i + 3))]) (rest := []) (c_GK_type C N ((((xs (i + 1)).toInt64) <<< ((32 : Int32).toInt64 &&& 63)) ||| (((xs (i + 2)).toInt64) &&& 4294967295)) (xs (i + 3)) hM hR hW) (hv_cw C hZ kc_GK_type kn_GK ⟨rfl, rfl, Nat.le_of_ble_eq_true rfl, Nat.le_of_ble_eq_true rfl⟩) hv_blind (hv_pre hZ hS hP) hx hml hb hown (hts _ k_Law_54) (hts _ ki_GK_type) (hts _ ksel_GK_GK_type) hy_GK_type (hts _ kc_GK_type) (va_recv hK (hv_one hP h0) (ci := 0) (q0 := 0) rfl rfl) rfl hl.1 rfl (lv_room (Nat.le_of_ble_eq_true rfl)) d_Law_law_165 ⟨by show _ ≤ 601024; omega, by show _ ≤ 7293034; omega⟩) hZ hS (fun v9 w1 H locs q2 hP hS => ?_) (fun x9 w1 H locs q2 hP hS => q2.elim)
  obtain ⟨hz9, hv9, hP9⟩ := q2
  subst hv9
  have hJ1 := hJ.cls hP9
  have hgx1 : gX (x_type σ ((((xs (i + 1)).toInt64) <<< ((32 : Int32).toInt64 &&& 63)) ||| (((xs (i + 2)).toInt64) &&& 4294967295)) (xs (i + 3))).1 := gX_type hgx ((((xs (i + 1)).toInt64) <<< ((32 : Int32).toInt64 &&& 63)) ||| (((xs (i + 2)).toInt64) &&& 4294967295)) (xs (i + 3))
  show W _ _ _ _ _ _ _ _ _ _ _ _ _ _ _ (F0 m 168 ls [.int ((x_type σ ((((xs (i + 1)).toInt64) <<< ((32 : Int32).toInt64 &&& 63)) ||| (((xs (i + 2)).toInt64) &&& 4294967295)) (xs (i + 3))).2.2)])
  obtain ⟨-, ⟨t8, A8, B8, hM8, hR8, -⟩, -, -⟩ := id hJ1
  have h3 : w1 (K 0) = some (.inr (7, [.int A8.thrown, .ref (K 1), .ref (K 2), .ref (K 3), .ref (K 4), .ref (K 5), .ref (K 6), .ref (K 7), .ref (K 8), .ref (K 9), .ref (K 10), .ref (K 11), .ref (K 12), .int (nI A8.tapeSize), .ref (K 13), .int A8.error, .int A8.off, .int A8.inside, .int (nI A8.changes), .int (nI A8.earlier), .int (nI A8.logged), .int A8.over, .int (nI A8.loose), .int A8.written, .int (nI A8.due)])) := hM8.1.2 0 (by decide)
  refine lv_aload_n hx hb d_Law_law_168 rfl (lv_at hl 2 rfl) ?_
  refine lv_aload_n hx hb d_Law_law_169 rfl (lv_at hl 0 rfl) ?_
  refine lv_iload hx hb d_Law_law_170 (lv_at hl 4 rfl) ?_
  refine lv_iconst (v := 1) hx hb d_Law_law_172 (by decide) ?_
  refine gk_iadd (x := i) (y := 1) hx hb d_Law_law_173 ?_
  refine va_sld hx hb hX hbl hbA hS (vp_in_nI (n := i + 1) (by omega) (by omega)) d_Law_law_174 ?_
  rw [nI_clamp (n := i + 1) (by omega)]
  refine lv_i2l (v := (xs (i + 1)).toInt64) hx hb d_Law_law_175 rfl ?_
  refine lv_bipush (v := 32) hx hb d_Law_law_176 (by decide) ?_
  refine lv_lshl (v := ((xs (i + 1)).toInt64) <<< ((32 : Int32).toInt64 &&& 63)) hx hb d_Law_law_178 rfl ?_
  refine lv_aload_n hx hb d_Law_law_179 rfl (lv_at hl 0 rfl) ?_
  refine lv_iload hx hb d_Law_law_180 (lv_at hl 4 rfl) ?_
  refine lv_iconst (v := 2) hx hb d_Law_law_182 (by decide) ?_
  refine gk_iadd (x := i) (y := 2) hx hb d_Law_law_183 ?_
  refine va_sld hx hb hX hbl hbA hS (vp_in_nI (n := i + 2) (by omega) (by omega)) d_Law_law_184 ?_
  rw [nI_clamp (n := i + 2) (by omega)]
  refine lv_i2l (v := (xs (i + 2)).toInt64) hx hb d_Law_law_185 rfl ?_
  refine lv_ldc2 (v := 4294967295) hx hb hown (hts _ k_Law_52) d_Law_law_186 ?_
  refine lv_land hx hb d_Law_law_189 ?_
  refine lv_lor hx hb d_Law_law_190 ?_
  refine lv_aload_n hx hb d_Law_law_191 rfl (lv_at hl 0 rfl) ?_
  refine lv_iload hx hb d_Law_law_192 (lv_at hl 4 rfl) ?_
  refine lv_iconst (v := 3) hx hb d_Law_law_194 (by decide) ?_
  refine gk_iadd (x := i) (y := 3) hx hb d_Law_law_195 ?_
  refine va_sld hx hb hX hbl hbA hS (vp_in_nI (n := i + 3) (by omega) (by omega)) d_Law_law_196 ?_
  rw [nI_clamp (n := i + 3) (by omega)]
  refine hv_call (hv_runV (As := [.long ((((xs (i + 1)).toInt64) <<< ((32 : Int32).toInt64 &&& 63)) ||| (((xs (i + 2)).toInt64) &&& 4294967295)), .int (xs (i + 3))]) (rest := [.int ((x_type σ ((((xs (i + 1)).toInt64) <<< ((32 : Int32).toInt64 &&& 63)) ||| (((xs (i + 2)).toInt64) &&& 4294967295)) (xs (i + 3))).2.2)]) (c_Model_type C ((((xs (i + 1)).toInt64) <<< ((32 : Int32).toInt64 &&& 63)) ||| (((xs (i + 2)).toInt64) &&& 4294967295)) (xs (i + 3)) hM8 hR8 hW) (hv_cw C hZ kc_Model_type kn_Model ⟨rfl, rfl, Nat.le_of_ble_eq_true rfl, Nat.le_of_ble_eq_true rfl⟩) hv_blind (hv_pre hZ hS hP) hx hml hb hown (hts _ k_Law_58) (hts _ ki_Model_type) (hts _ ksel_Model_Model_type) hy_Model_type (hts _ kc_Model_type) (va_recv hK (hv_one hP h3) (ci := 7) (q0 := 0) rfl rfl) rfl hl.1 rfl (lv_room (Nat.le_of_ble_eq_true rfl)) d_Law_law_197 ⟨by show _ ≤ 601024; omega, by show _ ≤ 7293034; omega⟩) hZ hS (fun v9 w4 H locs q5 hP hS => ?_) (fun x9 w4 H locs q5 hP hS => q5.elim)
  obtain ⟨x8, hv8, hx8, hS8⟩ := q5
  subst hv8
  have hx8 := hx8 hz9
  subst hx8
  have hJ2 := hJ1.mod hgx1.1 hS8
  show W _ _ _ _ _ _ _ _ _ _ _ _ _ _ _ (F0 m 200 ls [.int ((x_type σ ((((xs (i + 1)).toInt64) <<< ((32 : Int32).toInt64 &&& 63)) ||| (((xs (i + 2)).toInt64) &&& 4294967295)) (xs (i + 3))).2.2), .int ((x_type σ ((((xs (i + 1)).toInt64) <<< ((32 : Int32).toInt64 &&& 63)) ||| (((xs (i + 2)).toInt64) &&& 4294967295)) (xs (i + 3))).2.2)])
  refine lv_icmp_eq (tgt := 1114) hx hb d_Law_law_200 (by decide) (fun c200 => ?_) (fun c200 => ?_)
  · refine W.widen (k := cells + 9) (n := slots + 69) (by omega) (by omega) ?_
    exact kk _ _ _ ⟨hgx1, hJ2⟩ _ _ _ hP hS (lv_sub hl [0, 1, 2, 3, 4] rfl)
  · exact absurd rfl c200

set_option maxHeartbeats 4000000 in
set_option maxRecDepth 100000 in
theorem lc_node {p : Program} {l : Launch} {e : Env} {s : State} {m : MethodId} {below : List Frame} {meth : Method} {c : Code} {D : va_G} {ca : Nat → ClassId} {b n0 : Nat} {xs : Nat → Int32} {Q : State → Prop} (F : lF l s D ca p m c b n0 xs) {L K : Nat → Nat} {o9 i cells slots : Nat} (hi : i + 7 ≤ n0) (hcl : cells + 9 ≤ 601024) (hsl : slots + 69 ≤ 7293034) (kk : lKK p l e s m below meth c D ca L K o9 b i cells slots Q)
    {w : hv_W} {σ : gS} {f9 : Nat → Int64} (I : lI ca L K o9 σ f9 w) {H : Heap} {locs : List Loc} {ls : Array Slot} (hP : hv_P D classes s.heap.size w H) (hS : va_S (hv_A s.heap.size) s.heap H locs) (hl : lv_has ls 8 (lLoc b L K o9 i)) : W p l e room_1 s m #[Value.ref b] below meth c H locs cells slots Q (F0 m 205 ls []) := by
  obtain ⟨C, N, hx, hb, hml, hown, hts, hX, hbl, hn0⟩ := F
  have hK : va_K D classes (hv_tys ca) s := C.1
  have hZ : hv_Z s s := hv_Z.refl s
  have hbA : ¬ hv_A s.heap.size b := Nat.not_le.mpr hbl
  have hl : lv_has ls 8 [(0, .ref b), (1, .ref (L 0)), (2, .ref (K 0)), (3, .ref o9), (4, .int (nI i))] := hl
  obtain ⟨hgx, hJ⟩ := I
  have hW : gW σ := hgx.1
  obtain ⟨⟨P, hM, hR⟩, -, ho9, hap⟩ := id hJ
  have hlo : ¬ cM L o9 := hap.2.2.1
  have h0 : w (L 0) = some (.inr (0, [.ref (L 1), .ref (L 2), .ref (L 3), .ref (L 4), .ref (L 5), .ref (L 6), .ref (L 7), .int (σ.err), .int (nI σ.sc), .int (nI σ.ec), .int (σ.ins), .int (σ.off)])) := hM.1.2 0 (by decide)
  refine lv_aload_n hx hb d_Law_law_205 rfl (lv_at hl 1 rfl) ?_
  refine lv_aload_n hx hb d_Law_law_206 rfl (lv_at hl 3 rfl) ?_
  refine hv_call (hv_runS (As := [.ref (L 0), .ref o9]) (rest := []) (c_Law_node C N  hM hR hW ho9 hlo) (hv_cwW C hZ kc_Law_node kn_Law ⟨rfl, rfl, Nat.le_of_ble_eq_true rfl, Nat.le_of_ble_eq_true rfl⟩) hv_blind (hv_pre hZ hS hP) hx hml hb hown (hts _ k_Law_59) (hts _ ki_Law_node) (hts _ kn_Law) hy_Law_node (hv_sigW (hts _ kc_Law_node)) rfl hl.1 rfl (lv_room (Nat.le_of_ble_eq_true rfl)) d_Law_law_207 ⟨by show _ ≤ 601024; omega, by show _ ≤ 7293034; omega⟩) hZ hS (fun v9 w1 H locs q2 hP hS => ?_) (fun x9 w1 H locs q2 hP hS => q2.elim)
  have hgx1 : gX (x_node σ).1 := gX_node hgx
  obtain ⟨hv9, hk2, w7, hP9, hcase⟩ := q2
  subst hv9
  have hJ1 := hJ.cls hP9
  rcases hcase with ⟨hk9, hw9⟩ | ⟨hk9, hw9⟩
  · have hJ2 : lJ ca L K o9 (x_node σ).1 σ f9 w1 := by rw [hw9]; exact hJ1
    show W _ _ _ _ _ _ _ _ _ _ _ _ _ _ _ (F0 m 210 ls [.int (nI ((x_node σ).2.1))])
    obtain ⟨-, ⟨t8, A8, B8, hM8, hR8, -⟩, -, -⟩ := id hJ2
    have h3 : w1 (K 0) = some (.inr (7, [.int A8.thrown, .ref (K 1), .ref (K 2), .ref (K 3), .ref (K 4), .ref (K 5), .ref (K 6), .ref (K 7), .ref (K 8), .ref (K 9), .ref (K 10), .ref (K 11), .ref (K 12), .int (nI A8.tapeSize), .ref (K 13), .int A8.error, .int A8.off, .int A8.inside, .int (nI A8.changes), .int (nI A8.earlier), .int (nI A8.logged), .int A8.over, .int (nI A8.loose), .int A8.written, .int (nI A8.due)])) := hM8.1.2 0 (by decide)
    refine lv_istore (lv' := [(5, .int (nI ((x_node σ).2.1))), (0, .ref b), (1, .ref (L 0)), (2, .ref (K 0)), (3, .ref o9), (4, .int (nI i))]) hx hb d_Law_law_210 hl (by decide) rfl (fun ls hl => ?_)
    refine lv_aload_n hx hb d_Law_law_212 rfl (lv_at hl 3 rfl) ?_
    refine hv_call (hv_runV (As := []) (rest := []) (c_Model_node C  hM8 hR8 hW) (hv_cw C hZ kc_Model_node kn_Model ⟨rfl, rfl, Nat.le_of_ble_eq_true rfl, Nat.le_of_ble_eq_true rfl⟩) hv_blind (hv_pre hZ hS hP) hx hml hb hown (hts _ k_Law_64) (hts _ ki_Model_node) (hts _ ksel_Model_Model_node) hy_Model_node (hts _ kc_Model_node) (va_recv hK (hv_one hP h3) (ci := 7) (q0 := 0) rfl rfl) rfl hl.1 rfl (lv_room (Nat.le_of_ble_eq_true rfl)) d_Law_law_213 ⟨by show _ ≤ 601024; omega, by show _ ≤ 7293034; omega⟩) hZ hS (fun v9 w4 H locs q5 hP hS => ?_) (fun x9 w4 H locs q5 hP hS => q5.elim)
    obtain ⟨x8, hv8, hx8, hS8⟩ := q5
    subst hv8
    have hJ3 := hJ2.mod hgx1.1 hS8
    show W _ _ _ _ _ _ _ _ _ _ _ _ _ _ _ (F0 m 216 ls [.int x8])
    obtain ⟨A7, B7, hM7, hR7, ht7⟩ := id hS8
    have h6 : w4 (K 0) = some (.inr (7, [.int A7.thrown, .ref (K 1), .ref (K 2), .ref (K 3), .ref (K 4), .ref (K 5), .ref (K 6), .ref (K 7), .ref (K 8), .ref (K 9), .ref (K 10), .ref (K 11), .ref (K 12), .int (nI A7.tapeSize), .ref (K 13), .int A7.error, .int A7.off, .int A7.inside, .int (nI A7.changes), .int (nI A7.earlier), .int (nI A7.logged), .int A7.over, .int (nI A7.loose), .int A7.written, .int (nI A7.due)])) := hM7.1.2 0 (by decide)
    refine lv_istore (lv' := [(6, .int x8), (5, .int (nI ((x_node σ).2.1))), (0, .ref b), (1, .ref (L 0)), (2, .ref (K 0)), (3, .ref o9), (4, .int (nI i))]) hx hb d_Law_law_216 hl (by decide) rfl (fun ls hl => ?_)
    refine lv_aload_n hx hb d_Law_law_218 rfl (lv_at hl 4 rfl) ?_
    refine hv_call (hv_runV (As := []) (rest := []) (c_Model_thrown C hM7) (hv_cw C hZ kc_Model_thrown kn_Model ⟨rfl, rfl, Nat.le_of_ble_eq_true rfl, Nat.le_of_ble_eq_true rfl⟩) hv_blind (hv_pre hZ hS hP) hx hml hb hown (hts _ k_Law_65) (hts _ ki_Model_thrown) (hts _ ksel_Model_Model_thrown) hy_Model_thrown (hts _ kc_Model_thrown) (va_recv hK (hv_one hP h6) (ci := 7) (q0 := 0) rfl rfl) rfl hl.1 rfl (lv_room (Nat.le_of_ble_eq_true rfl)) d_Law_law_219 ⟨by show _ ≤ 601024; omega, by show _ ≤ 7293034; omega⟩) hZ hS (fun v9 w7 H locs q8 hP hS => ?_) (fun x9 w7 H locs q8 hP hS => q8.elim)
    obtain ⟨hv9, hw9⟩ := q8
    subst hv9
    rw [hw9] at hP
    show W _ _ _ _ _ _ _ _ _ _ _ _ _ _ _ (F0 m 222 ls [.int A7.thrown])
    refine lv_topi (fun v9 e9 => ?_)
    have e9 : v9 = nI ((x_node σ).2.1) := e9.trans (ht7)
    subst e9
    show W _ _ _ _ _ _ _ _ _ _ _ _ _ _ _ (F0 m 222 ls [.int (nI ((x_node σ).2.1))])
    refine lv_iload hx hb d_Law_law_222 (lv_at hl 1 rfl) ?_
    refine gk_icmp_eq (x := (x_node σ).2.1) (y := (x_node σ).2.1) (tgt := 229) hx hb d_Law_law_224 (by decide) (by omega) (by omega) (fun c224 => ?_) (fun c224 => ?_)
    · refine lv_iload hx hb d_Law_law_229 (lv_at hl 1 rfl) ?_
      refine gk_if_ne (x := (x_node σ).2.1) (tgt := 246) hx hb d_Law_law_231 (by decide) (by omega) (fun c231 => ?_) (fun c231 => ?_)
      · refine lv_goto (tgt := 1114) hx hb d_Law_law_246 (by decide) ?_
        refine W.widen (k := cells + 9) (n := slots + 69) (by omega) (by omega) ?_
        exact kk _ _ _ ⟨hgx1, hJ3⟩ _ _ _ hP hS (lv_sub hl [2, 3, 4, 5, 6] rfl)
      · exact absurd c231 hk9
    · exact absurd rfl c224
  · have hJ2 : lJ ca L K o9 (x_node σ).1 σ (vp_updL f9 0 ((x_node σ).2.2.toInt64)) w1 := by rw [hw9]; exact hJ1.out hgx1.1
    show W _ _ _ _ _ _ _ _ _ _ _ _ _ _ _ (F0 m 210 ls [.int (nI ((x_node σ).2.1))])
    obtain ⟨-, ⟨t8, A8, B8, hM8, hR8, -⟩, -, -⟩ := id hJ2
    have h9 : w1 (K 0) = some (.inr (7, [.int A8.thrown, .ref (K 1), .ref (K 2), .ref (K 3), .ref (K 4), .ref (K 5), .ref (K 6), .ref (K 7), .ref (K 8), .ref (K 9), .ref (K 10), .ref (K 11), .ref (K 12), .int (nI A8.tapeSize), .ref (K 13), .int A8.error, .int A8.off, .int A8.inside, .int (nI A8.changes), .int (nI A8.earlier), .int (nI A8.logged), .int A8.over, .int (nI A8.loose), .int A8.written, .int (nI A8.due)])) := hM8.1.2 0 (by decide)
    refine lv_istore (lv' := [(5, .int (nI ((x_node σ).2.1))), (0, .ref b), (1, .ref (L 0)), (2, .ref (K 0)), (3, .ref o9), (4, .int (nI i))]) hx hb d_Law_law_210 hl (by decide) rfl (fun ls hl => ?_)
    refine lv_aload_n hx hb d_Law_law_212 rfl (lv_at hl 3 rfl) ?_
    refine hv_call (hv_runV (As := []) (rest := []) (c_Model_node C  hM8 hR8 hW) (hv_cw C hZ kc_Model_node kn_Model ⟨rfl, rfl, Nat.le_of_ble_eq_true rfl, Nat.le_of_ble_eq_true rfl⟩) hv_blind (hv_pre hZ hS hP) hx hml hb hown (hts _ k_Law_64) (hts _ ki_Model_node) (hts _ ksel_Model_Model_node) hy_Model_node (hts _ kc_Model_node) (va_recv hK (hv_one hP h9) (ci := 7) (q0 := 0) rfl rfl) rfl hl.1 rfl (lv_room (Nat.le_of_ble_eq_true rfl)) d_Law_law_213 ⟨by show _ ≤ 601024; omega, by show _ ≤ 7293034; omega⟩) hZ hS (fun v9 w10 H locs q11 hP hS => ?_) (fun x9 w10 H locs q11 hP hS => q11.elim)
    obtain ⟨x8, hv8, hx8, hS8⟩ := q11
    subst hv8
    have hx8 := hx8 hk9
    subst hx8
    have hJ3 := hJ2.mod hgx1.1 hS8
    show W _ _ _ _ _ _ _ _ _ _ _ _ _ _ _ (F0 m 216 ls [.int ((x_node σ).2.2)])
    obtain ⟨A7, B7, hM7, hR7, ht7⟩ := id hS8
    have h12 : w10 (K 0) = some (.inr (7, [.int A7.thrown, .ref (K 1), .ref (K 2), .ref (K 3), .ref (K 4), .ref (K 5), .ref (K 6), .ref (K 7), .ref (K 8), .ref (K 9), .ref (K 10), .ref (K 11), .ref (K 12), .int (nI A7.tapeSize), .ref (K 13), .int A7.error, .int A7.off, .int A7.inside, .int (nI A7.changes), .int (nI A7.earlier), .int (nI A7.logged), .int A7.over, .int (nI A7.loose), .int A7.written, .int (nI A7.due)])) := hM7.1.2 0 (by decide)
    have h13 : w10 o9 = some (.inl (ca 3, 1, .inr (.inl (vp_updL f9 0 ((x_node σ).2.2.toInt64))))) := hJ3.2.2.1
    refine lv_istore (lv' := [(6, .int ((x_node σ).2.2)), (5, .int (nI ((x_node σ).2.1))), (0, .ref b), (1, .ref (L 0)), (2, .ref (K 0)), (3, .ref o9), (4, .int (nI i))]) hx hb d_Law_law_216 hl (by decide) rfl (fun ls hl => ?_)
    refine lv_aload_n hx hb d_Law_law_218 rfl (lv_at hl 4 rfl) ?_
    refine hv_call (hv_runV (As := []) (rest := []) (c_Model_thrown C hM7) (hv_cw C hZ kc_Model_thrown kn_Model ⟨rfl, rfl, Nat.le_of_ble_eq_true rfl, Nat.le_of_ble_eq_true rfl⟩) hv_blind (hv_pre hZ hS hP) hx hml hb hown (hts _ k_Law_65) (hts _ ki_Model_thrown) (hts _ ksel_Model_Model_thrown) hy_Model_thrown (hts _ kc_Model_thrown) (va_recv hK (hv_one hP h12) (ci := 7) (q0 := 0) rfl rfl) rfl hl.1 rfl (lv_room (Nat.le_of_ble_eq_true rfl)) d_Law_law_219 ⟨by show _ ≤ 601024; omega, by show _ ≤ 7293034; omega⟩) hZ hS (fun v9 w14 H locs q15 hP hS => ?_) (fun x9 w14 H locs q15 hP hS => q15.elim)
    obtain ⟨hv9, hw9⟩ := q15
    subst hv9
    rw [hw9] at hP
    show W _ _ _ _ _ _ _ _ _ _ _ _ _ _ _ (F0 m 222 ls [.int A7.thrown])
    refine lv_topi (fun v9 e9 => ?_)
    have e9 : v9 = nI ((x_node σ).2.1) := e9.trans (ht7)
    subst e9
    show W _ _ _ _ _ _ _ _ _ _ _ _ _ _ _ (F0 m 222 ls [.int (nI ((x_node σ).2.1))])
    refine lv_iload hx hb d_Law_law_222 (lv_at hl 1 rfl) ?_
    refine gk_icmp_eq (x := (x_node σ).2.1) (y := (x_node σ).2.1) (tgt := 229) hx hb d_Law_law_224 (by decide) (by omega) (by omega) (fun c224 => ?_) (fun c224 => ?_)
    · refine lv_iload hx hb d_Law_law_229 (lv_at hl 1 rfl) ?_
      refine gk_if_ne (x := (x_node σ).2.1) (tgt := 246) hx hb d_Law_law_231 (by decide) (by omega) (fun c231 => ?_) (fun c231 => ?_)
      · exact absurd hk9 c231
      · refine lv_aload_n hx hb d_Law_law_234 rfl (lv_at hl 5 rfl) ?_
        refine lv_iconst (v := 0) hx hb d_Law_law_235 (by decide) ?_
        refine va_lald hx hb hK (hv_one hP h13) 0 3 rfl rfl (vp_in_nI (n := 0) (by omega) (by omega)) d_Law_law_236 ?_
        rw [show Int32.toNatClampNeg 0 = 0 by decide]
        refine lv_topl (fun v9 e9 => ?_)
        have e9 : v9 = (x_node σ).2.2.toInt64 := e9.trans (m_uLs)
        subst e9
        show W _ _ _ _ _ _ _ _ _ _ _ _ _ _ _ (F0 m 237 ls [.long ((x_node σ).2.2.toInt64)])
        refine lv_iload hx hb d_Law_law_237 (lv_at hl 0 rfl) ?_
        refine lv_i2l (v := ((x_node σ).2.2).toInt64) hx hb d_Law_law_239 rfl ?_
        refine W.lcmp hx hb d_Law_law_240 ?_
        refine lv_if_eq (tgt := 246) hx hb d_Law_law_241 (by decide) (fun c241 => ?_) (fun c241 => ?_)
        · refine lv_goto (tgt := 1114) hx hb d_Law_law_246 (by decide) ?_
          refine W.widen (k := cells + 9) (n := slots + 69) (by omega) (by omega) ?_
          exact kk _ _ _ ⟨hgx1, hJ3⟩ _ _ _ hP hS (lv_sub hl [2, 3, 4, 5, 6] rfl)
        · exact absurd (g_lcmp_refl _) c241
    · exact absurd rfl c224

set_option maxHeartbeats 4000000 in
set_option maxRecDepth 100000 in
theorem lc_label {p : Program} {l : Launch} {e : Env} {s : State} {m : MethodId} {below : List Frame} {meth : Method} {c : Code} {D : va_G} {ca : Nat → ClassId} {b n0 : Nat} {xs : Nat → Int32} {Q : State → Prop} (F : lF l s D ca p m c b n0 xs) {L K : Nat → Nat} {o9 i cells slots : Nat} (hi : i + 7 ≤ n0) (hcl : cells + 9 ≤ 601024) (hsl : slots + 69 ≤ 7293034) (kk : lKK p l e s m below meth c D ca L K o9 b i cells slots Q)
    {w : hv_W} {σ : gS} {f9 : Nat → Int64} (I : lI ca L K o9 σ f9 w) {H : Heap} {locs : List Loc} {ls : Array Slot} (hP : hv_P D classes s.heap.size w H) (hS : va_S (hv_A s.heap.size) s.heap H locs) (hl : lv_has ls 8 (lLoc b L K o9 i)) : W p l e room_1 s m #[Value.ref b] below meth c H locs cells slots Q (F0 m 249 ls []) := by
  obtain ⟨C, N, hx, hb, hml, hown, hts, hX, hbl, hn0⟩ := F
  have hK : va_K D classes (hv_tys ca) s := C.1
  have hZ : hv_Z s s := hv_Z.refl s
  have hbA : ¬ hv_A s.heap.size b := Nat.not_le.mpr hbl
  have hl : lv_has ls 8 [(0, .ref b), (1, .ref (L 0)), (2, .ref (K 0)), (3, .ref o9), (4, .int (nI i))] := hl
  obtain ⟨hgx, hJ⟩ := I
  have hW : gW σ := hgx.1
  obtain ⟨⟨P, hM, hR⟩, -, ho9, hap⟩ := id hJ
  have hlo : ¬ cM L o9 := hap.2.2.1
  have h0 : w (L 0) = some (.inr (0, [.ref (L 1), .ref (L 2), .ref (L 3), .ref (L 4), .ref (L 5), .ref (L 6), .ref (L 7), .int (σ.err), .int (nI σ.sc), .int (nI σ.ec), .int (σ.ins), .int (σ.off)])) := hM.1.2 0 (by decide)
  refine lv_aload_n hx hb d_Law_law_249 rfl (lv_at hl 1 rfl) ?_
  refine lv_aload_n hx hb d_Law_law_250 rfl (lv_at hl 0 rfl) ?_
  refine lv_iload hx hb d_Law_law_251 (lv_at hl 4 rfl) ?_
  refine lv_iconst (v := 1) hx hb d_Law_law_253 (by decide) ?_
  refine gk_iadd (x := i) (y := 1) hx hb d_Law_law_254 ?_
  refine va_sld hx hb hX hbl hbA hS (vp_in_nI (n := i + 1) (by omega) (by omega)) d_Law_law_255 ?_
  rw [nI_clamp (n := i + 1) (by omega)]
  refine lv_aload_n hx hb d_Law_law_256 rfl (lv_at hl 0 rfl) ?_
  refine lv_iload hx hb d_Law_law_257 (lv_at hl 4 rfl) ?_
  refine lv_iconst (v := 2) hx hb d_Law_law_259 (by decide) ?_
  refine gk_iadd (x := i) (y := 2) hx hb d_Law_law_260 ?_
  refine va_sld hx hb hX hbl hbA hS (vp_in_nI (n := i + 2) (by omega) (by omega)) d_Law_law_261 ?_
  rw [nI_clamp (n := i + 2) (by omega)]
  refine lv_aload_n hx hb d_Law_law_262 rfl (lv_at hl 0 rfl) ?_
  refine lv_iload hx hb d_Law_law_263 (lv_at hl 4 rfl) ?_
  refine lv_iconst (v := 3) hx hb d_Law_law_265 (by decide) ?_
  refine gk_iadd (x := i) (y := 3) hx hb d_Law_law_266 ?_
  refine va_sld hx hb hX hbl hbA hS (vp_in_nI (n := i + 3) (by omega) (by omega)) d_Law_law_267 ?_
  rw [nI_clamp (n := i + 3) (by omega)]
  refine lv_if_eq (tgt := 275) hx hb d_Law_law_268 (by decide) (fun c268 => ?_) (fun c268 => ?_)
  · refine lv_iconst (v := 0) hx hb d_Law_law_275 (by decide) ?_
    refine lv_aload_n hx hb d_Law_law_276 rfl (lv_at hl 3 rfl) ?_
    refine hv_call (hv_runS (As := [.ref (L 0), .int (xs (i + 1)), .int (xs (i + 2)), .int 0, .ref o9]) (rest := []) (c_Law_label C N (xs (i + 1)) (xs (i + 2)) 0 hM hR hW ho9 hlo (Or.inl rfl)) (hv_cwW C hZ kc_Law_label kn_Law ⟨rfl, rfl, Nat.le_of_ble_eq_true rfl, Nat.le_of_ble_eq_true rfl⟩) hv_blind (hv_pre hZ hS hP) hx hml hb hown (hts _ k_Law_68) (hts _ ki_Law_label) (hts _ kn_Law) hy_Law_label (hv_sigW (hts _ kc_Law_label)) rfl hl.1 rfl (lv_room (Nat.le_of_ble_eq_true rfl)) d_Law_law_277 ⟨by show _ ≤ 601024; omega, by show _ ≤ 7293034; omega⟩) hZ hS (fun v9 w1 H locs q2 hP hS => ?_) (fun x9 w1 H locs q2 hP hS => q2.elim)
    have hgx1 : gX (x_label σ (xs (i + 1)) (xs (i + 2)) 0).1 := gX_label hgx (xs (i + 1)) (xs (i + 2)) 0
    obtain ⟨hv9, hk2, w7, hP9, hcase⟩ := q2
    subst hv9
    have hJ1 := hJ.cls hP9
    rcases hcase with ⟨hk9, hw9⟩ | ⟨hk9, hw9⟩
    · have hJ2 : lJ ca L K o9 (x_label σ (xs (i + 1)) (xs (i + 2)) 0).1 σ f9 w1 := by rw [hw9]; exact hJ1
      show W _ _ _ _ _ _ _ _ _ _ _ _ _ _ _ (F0 m 280 ls [.int (nI ((x_label σ (xs (i + 1)) (xs (i + 2)) 0).2.1))])
      obtain ⟨-, ⟨t8, A8, B8, hM8, hR8, -⟩, -, -⟩ := id hJ2
      have h3 : w1 (K 0) = some (.inr (7, [.int A8.thrown, .ref (K 1), .ref (K 2), .ref (K 3), .ref (K 4), .ref (K 5), .ref (K 6), .ref (K 7), .ref (K 8), .ref (K 9), .ref (K 10), .ref (K 11), .ref (K 12), .int (nI A8.tapeSize), .ref (K 13), .int A8.error, .int A8.off, .int A8.inside, .int (nI A8.changes), .int (nI A8.earlier), .int (nI A8.logged), .int A8.over, .int (nI A8.loose), .int A8.written, .int (nI A8.due)])) := hM8.1.2 0 (by decide)
      refine lv_istore (lv' := [(5, .int (nI ((x_label σ (xs (i + 1)) (xs (i + 2)) 0).2.1))), (0, .ref b), (1, .ref (L 0)), (2, .ref (K 0)), (3, .ref o9), (4, .int (nI i))]) hx hb d_Law_law_280 hl (by decide) rfl (fun ls hl => ?_)
      refine lv_aload_n hx hb d_Law_law_282 rfl (lv_at hl 3 rfl) ?_
      refine lv_aload_n hx hb d_Law_law_283 rfl (lv_at hl 1 rfl) ?_
      refine lv_iload hx hb d_Law_law_284 (lv_at hl 5 rfl) ?_
      refine lv_iconst (v := 1) hx hb d_Law_law_286 (by decide) ?_
      refine gk_iadd (x := i) (y := 1) hx hb d_Law_law_287 ?_
      refine va_sld hx hb hX hbl hbA hS (vp_in_nI (n := i + 1) (by omega) (by omega)) d_Law_law_288 ?_
      rw [nI_clamp (n := i + 1) (by omega)]
      refine lv_aload_n hx hb d_Law_law_289 rfl (lv_at hl 1 rfl) ?_
      refine lv_iload hx hb d_Law_law_290 (lv_at hl 5 rfl) ?_
      refine lv_iconst (v := 2) hx hb d_Law_law_292 (by decide) ?_
      refine gk_iadd (x := i) (y := 2) hx hb d_Law_law_293 ?_
      refine va_sld hx hb hX hbl hbA hS (vp_in_nI (n := i + 2) (by omega) (by omega)) d_Law_law_294 ?_
      rw [nI_clamp (n := i + 2) (by omega)]
      refine lv_aload_n hx hb d_Law_law_295 rfl (lv_at hl 1 rfl) ?_
      refine lv_iload hx hb d_Law_law_296 (lv_at hl 5 rfl) ?_
      refine lv_iconst (v := 3) hx hb d_Law_law_298 (by decide) ?_
      refine gk_iadd (x := i) (y := 3) hx hb d_Law_law_299 ?_
      refine va_sld hx hb hX hbl hbA hS (vp_in_nI (n := i + 3) (by omega) (by omega)) d_Law_law_300 ?_
      rw [nI_clamp (n := i + 3) (by omega)]
      refine lv_if_eq (tgt := 308) hx hb d_Law_law_301 (by decide) (fun c301 => ?_) (fun c301 => ?_)
      · refine lv_iconst (v := 0) hx hb d_Law_law_308 (by decide) ?_
        refine hv_call (hv_runV (As := [.int (xs (i + 1)), .int (xs (i + 2)), .int 0]) (rest := []) (c_Model_label C (xs (i + 1)) (xs (i + 2)) 0 hM8 hR8 hW (Or.inl rfl)) (hv_cw C hZ kc_Model_label kn_Model ⟨rfl, rfl, Nat.le_of_ble_eq_true rfl, Nat.le_of_ble_eq_true rfl⟩) hv_blind (hv_pre hZ hS hP) hx hml hb hown (hts _ k_Law_71) (hts _ ki_Model_label) (hts _ ksel_Model_Model_label) hy_Model_label (hts _ kc_Model_label) (va_recv hK (hv_one hP h3) (ci := 7) (q0 := 0) rfl rfl) rfl hl.1 rfl (lv_room (Nat.le_of_ble_eq_true rfl)) d_Law_law_309 ⟨by show _ ≤ 601024; omega, by show _ ≤ 7293034; omega⟩) hZ hS (fun v9 w4 H locs q5 hP hS => ?_) (fun x9 w4 H locs q5 hP hS => q5.elim)
        obtain ⟨x8, hv8, hx8, hS8⟩ := q5
        subst hv8
        have hJ3 := hJ2.mod hgx1.1 hS8
        show W _ _ _ _ _ _ _ _ _ _ _ _ _ _ _ (F0 m 312 ls [.int x8])
        obtain ⟨A7, B7, hM7, hR7, ht7⟩ := id hS8
        have h6 : w4 (K 0) = some (.inr (7, [.int A7.thrown, .ref (K 1), .ref (K 2), .ref (K 3), .ref (K 4), .ref (K 5), .ref (K 6), .ref (K 7), .ref (K 8), .ref (K 9), .ref (K 10), .ref (K 11), .ref (K 12), .int (nI A7.tapeSize), .ref (K 13), .int A7.error, .int A7.off, .int A7.inside, .int (nI A7.changes), .int (nI A7.earlier), .int (nI A7.logged), .int A7.over, .int (nI A7.loose), .int A7.written, .int (nI A7.due)])) := hM7.1.2 0 (by decide)
        refine lv_istore (lv' := [(6, .int x8), (5, .int (nI ((x_label σ (xs (i + 1)) (xs (i + 2)) 0).2.1))), (0, .ref b), (1, .ref (L 0)), (2, .ref (K 0)), (3, .ref o9), (4, .int (nI i))]) hx hb d_Law_law_312 hl (by decide) rfl (fun ls hl => ?_)
        refine lv_aload_n hx hb d_Law_law_314 rfl (lv_at hl 4 rfl) ?_
        refine hv_call (hv_runV (As := []) (rest := []) (c_Model_thrown C hM7) (hv_cw C hZ kc_Model_thrown kn_Model ⟨rfl, rfl, Nat.le_of_ble_eq_true rfl, Nat.le_of_ble_eq_true rfl⟩) hv_blind (hv_pre hZ hS hP) hx hml hb hown (hts _ k_Law_65) (hts _ ki_Model_thrown) (hts _ ksel_Model_Model_thrown) hy_Model_thrown (hts _ kc_Model_thrown) (va_recv hK (hv_one hP h6) (ci := 7) (q0 := 0) rfl rfl) rfl hl.1 rfl (lv_room (Nat.le_of_ble_eq_true rfl)) d_Law_law_315 ⟨by show _ ≤ 601024; omega, by show _ ≤ 7293034; omega⟩) hZ hS (fun v9 w7 H locs q8 hP hS => ?_) (fun x9 w7 H locs q8 hP hS => q8.elim)
        obtain ⟨hv9, hw9⟩ := q8
        subst hv9
        rw [hw9] at hP
        show W _ _ _ _ _ _ _ _ _ _ _ _ _ _ _ (F0 m 318 ls [.int A7.thrown])
        refine lv_topi (fun v9 e9 => ?_)
        have e9 : v9 = nI ((x_label σ (xs (i + 1)) (xs (i + 2)) 0).2.1) := e9.trans (ht7)
        subst e9
        show W _ _ _ _ _ _ _ _ _ _ _ _ _ _ _ (F0 m 318 ls [.int (nI ((x_label σ (xs (i + 1)) (xs (i + 2)) 0).2.1))])
        refine lv_iload hx hb d_Law_law_318 (lv_at hl 1 rfl) ?_
        refine gk_icmp_eq (x := (x_label σ (xs (i + 1)) (xs (i + 2)) 0).2.1) (y := (x_label σ (xs (i + 1)) (xs (i + 2)) 0).2.1) (tgt := 325) hx hb d_Law_law_320 (by decide) (by omega) (by omega) (fun c320 => ?_) (fun c320 => ?_)
        · refine lv_iload hx hb d_Law_law_325 (lv_at hl 1 rfl) ?_
          refine gk_if_ne (x := (x_label σ (xs (i + 1)) (xs (i + 2)) 0).2.1) (tgt := 349) hx hb d_Law_law_327 (by decide) (by omega) (fun c327 => ?_) (fun c327 => ?_)
          · refine lv_goto (tgt := 1114) hx hb d_Law_law_349 (by decide) ?_
            refine W.widen (k := cells + 9) (n := slots + 69) (by omega) (by omega) ?_
            exact kk _ _ _ ⟨hgx1, hJ3⟩ _ _ _ hP hS (lv_sub hl [2, 3, 4, 5, 6] rfl)
          · exact absurd c327 hk9
        · exact absurd rfl c320
      · exact absurd c268 c301
    · rcases Classical.em ((x_label σ (xs (i + 1)) (xs (i + 2)) 0).2.2 = 0) with hzv | hzv
      · have hJ2 : lJ ca L K o9 (x_label σ (xs (i + 1)) (xs (i + 2)) 0).1 σ (vp_updL f9 0 ((if (x_label σ (xs (i + 1)) (xs (i + 2)) 0).2.2 = 0 then 0 else 1))) w1 := by rw [hw9]; exact hJ1.out hgx1.1
        show W _ _ _ _ _ _ _ _ _ _ _ _ _ _ _ (F0 m 280 ls [.int (nI ((x_label σ (xs (i + 1)) (xs (i + 2)) 0).2.1))])
        obtain ⟨-, ⟨t8, A8, B8, hM8, hR8, -⟩, -, -⟩ := id hJ2
        have h9 : w1 (K 0) = some (.inr (7, [.int A8.thrown, .ref (K 1), .ref (K 2), .ref (K 3), .ref (K 4), .ref (K 5), .ref (K 6), .ref (K 7), .ref (K 8), .ref (K 9), .ref (K 10), .ref (K 11), .ref (K 12), .int (nI A8.tapeSize), .ref (K 13), .int A8.error, .int A8.off, .int A8.inside, .int (nI A8.changes), .int (nI A8.earlier), .int (nI A8.logged), .int A8.over, .int (nI A8.loose), .int A8.written, .int (nI A8.due)])) := hM8.1.2 0 (by decide)
        refine lv_istore (lv' := [(5, .int (nI ((x_label σ (xs (i + 1)) (xs (i + 2)) 0).2.1))), (0, .ref b), (1, .ref (L 0)), (2, .ref (K 0)), (3, .ref o9), (4, .int (nI i))]) hx hb d_Law_law_280 hl (by decide) rfl (fun ls hl => ?_)
        refine lv_aload_n hx hb d_Law_law_282 rfl (lv_at hl 3 rfl) ?_
        refine lv_aload_n hx hb d_Law_law_283 rfl (lv_at hl 1 rfl) ?_
        refine lv_iload hx hb d_Law_law_284 (lv_at hl 5 rfl) ?_
        refine lv_iconst (v := 1) hx hb d_Law_law_286 (by decide) ?_
        refine gk_iadd (x := i) (y := 1) hx hb d_Law_law_287 ?_
        refine va_sld hx hb hX hbl hbA hS (vp_in_nI (n := i + 1) (by omega) (by omega)) d_Law_law_288 ?_
        rw [nI_clamp (n := i + 1) (by omega)]
        refine lv_aload_n hx hb d_Law_law_289 rfl (lv_at hl 1 rfl) ?_
        refine lv_iload hx hb d_Law_law_290 (lv_at hl 5 rfl) ?_
        refine lv_iconst (v := 2) hx hb d_Law_law_292 (by decide) ?_
        refine gk_iadd (x := i) (y := 2) hx hb d_Law_law_293 ?_
        refine va_sld hx hb hX hbl hbA hS (vp_in_nI (n := i + 2) (by omega) (by omega)) d_Law_law_294 ?_
        rw [nI_clamp (n := i + 2) (by omega)]
        refine lv_aload_n hx hb d_Law_law_295 rfl (lv_at hl 1 rfl) ?_
        refine lv_iload hx hb d_Law_law_296 (lv_at hl 5 rfl) ?_
        refine lv_iconst (v := 3) hx hb d_Law_law_298 (by decide) ?_
        refine gk_iadd (x := i) (y := 3) hx hb d_Law_law_299 ?_
        refine va_sld hx hb hX hbl hbA hS (vp_in_nI (n := i + 3) (by omega) (by omega)) d_Law_law_300 ?_
        rw [nI_clamp (n := i + 3) (by omega)]
        refine lv_if_eq (tgt := 308) hx hb d_Law_law_301 (by decide) (fun c301 => ?_) (fun c301 => ?_)
        · refine lv_iconst (v := 0) hx hb d_Law_law_308 (by decide) ?_
          refine hv_call (hv_runV (As := [.int (xs (i + 1)), .int (xs (i + 2)), .int 0]) (rest := []) (c_Model_label C (xs (i + 1)) (xs (i + 2)) 0 hM8 hR8 hW (Or.inl rfl)) (hv_cw C hZ kc_Model_label kn_Model ⟨rfl, rfl, Nat.le_of_ble_eq_true rfl, Nat.le_of_ble_eq_true rfl⟩) hv_blind (hv_pre hZ hS hP) hx hml hb hown (hts _ k_Law_71) (hts _ ki_Model_label) (hts _ ksel_Model_Model_label) hy_Model_label (hts _ kc_Model_label) (va_recv hK (hv_one hP h9) (ci := 7) (q0 := 0) rfl rfl) rfl hl.1 rfl (lv_room (Nat.le_of_ble_eq_true rfl)) d_Law_law_309 ⟨by show _ ≤ 601024; omega, by show _ ≤ 7293034; omega⟩) hZ hS (fun v9 w10 H locs q11 hP hS => ?_) (fun x9 w10 H locs q11 hP hS => q11.elim)
          obtain ⟨x8, hv8, hx8, hS8⟩ := q11
          subst hv8
          have hx8 := hx8 hk9
          subst hx8
          have hJ3 := hJ2.mod hgx1.1 hS8
          show W _ _ _ _ _ _ _ _ _ _ _ _ _ _ _ (F0 m 312 ls [.int ((x_label σ (xs (i + 1)) (xs (i + 2)) 0).2.2)])
          obtain ⟨A7, B7, hM7, hR7, ht7⟩ := id hS8
          have h12 : w10 (K 0) = some (.inr (7, [.int A7.thrown, .ref (K 1), .ref (K 2), .ref (K 3), .ref (K 4), .ref (K 5), .ref (K 6), .ref (K 7), .ref (K 8), .ref (K 9), .ref (K 10), .ref (K 11), .ref (K 12), .int (nI A7.tapeSize), .ref (K 13), .int A7.error, .int A7.off, .int A7.inside, .int (nI A7.changes), .int (nI A7.earlier), .int (nI A7.logged), .int A7.over, .int (nI A7.loose), .int A7.written, .int (nI A7.due)])) := hM7.1.2 0 (by decide)
          have h13 : w10 o9 = some (.inl (ca 3, 1, .inr (.inl (vp_updL f9 0 ((if (x_label σ (xs (i + 1)) (xs (i + 2)) 0).2.2 = 0 then 0 else 1)))))) := hJ3.2.2.1
          refine lv_istore (lv' := [(6, .int ((x_label σ (xs (i + 1)) (xs (i + 2)) 0).2.2)), (5, .int (nI ((x_label σ (xs (i + 1)) (xs (i + 2)) 0).2.1))), (0, .ref b), (1, .ref (L 0)), (2, .ref (K 0)), (3, .ref o9), (4, .int (nI i))]) hx hb d_Law_law_312 hl (by decide) rfl (fun ls hl => ?_)
          refine lv_aload_n hx hb d_Law_law_314 rfl (lv_at hl 4 rfl) ?_
          refine hv_call (hv_runV (As := []) (rest := []) (c_Model_thrown C hM7) (hv_cw C hZ kc_Model_thrown kn_Model ⟨rfl, rfl, Nat.le_of_ble_eq_true rfl, Nat.le_of_ble_eq_true rfl⟩) hv_blind (hv_pre hZ hS hP) hx hml hb hown (hts _ k_Law_65) (hts _ ki_Model_thrown) (hts _ ksel_Model_Model_thrown) hy_Model_thrown (hts _ kc_Model_thrown) (va_recv hK (hv_one hP h12) (ci := 7) (q0 := 0) rfl rfl) rfl hl.1 rfl (lv_room (Nat.le_of_ble_eq_true rfl)) d_Law_law_315 ⟨by show _ ≤ 601024; omega, by show _ ≤ 7293034; omega⟩) hZ hS (fun v9 w14 H locs q15 hP hS => ?_) (fun x9 w14 H locs q15 hP hS => q15.elim)
          obtain ⟨hv9, hw9⟩ := q15
          subst hv9
          rw [hw9] at hP
          show W _ _ _ _ _ _ _ _ _ _ _ _ _ _ _ (F0 m 318 ls [.int A7.thrown])
          refine lv_topi (fun v9 e9 => ?_)
          have e9 : v9 = nI ((x_label σ (xs (i + 1)) (xs (i + 2)) 0).2.1) := e9.trans (ht7)
          subst e9
          show W _ _ _ _ _ _ _ _ _ _ _ _ _ _ _ (F0 m 318 ls [.int (nI ((x_label σ (xs (i + 1)) (xs (i + 2)) 0).2.1))])
          refine lv_iload hx hb d_Law_law_318 (lv_at hl 1 rfl) ?_
          refine gk_icmp_eq (x := (x_label σ (xs (i + 1)) (xs (i + 2)) 0).2.1) (y := (x_label σ (xs (i + 1)) (xs (i + 2)) 0).2.1) (tgt := 325) hx hb d_Law_law_320 (by decide) (by omega) (by omega) (fun c320 => ?_) (fun c320 => ?_)
          · refine lv_iload hx hb d_Law_law_325 (lv_at hl 1 rfl) ?_
            refine gk_if_ne (x := (x_label σ (xs (i + 1)) (xs (i + 2)) 0).2.1) (tgt := 349) hx hb d_Law_law_327 (by decide) (by omega) (fun c327 => ?_) (fun c327 => ?_)
            · exact absurd hk9 c327
            · refine lv_aload_n hx hb d_Law_law_330 rfl (lv_at hl 5 rfl) ?_
              refine lv_iconst (v := 0) hx hb d_Law_law_331 (by decide) ?_
              refine va_lald hx hb hK (hv_one hP h13) 0 3 rfl rfl (vp_in_nI (n := 0) (by omega) (by omega)) d_Law_law_332 ?_
              rw [show Int32.toNatClampNeg 0 = 0 by decide]
              refine lv_topl (fun v9 e9 => ?_)
              have e9 : v9 = 0 := e9.trans (m_uLs.trans (if_pos hzv))
              subst e9
              show W _ _ _ _ _ _ _ _ _ _ _ _ _ _ _ (F0 m 333 ls [.long 0])
              refine lv_iload hx hb d_Law_law_333 (lv_at hl 0 rfl) ?_
              refine lv_if_eq (tgt := 342) hx hb d_Law_law_335 (by decide) (fun c335 => ?_) (fun c335 => ?_)
              · refine lv_lconst (v := 0) hx hb d_Law_law_342 (by decide) ?_
                refine W.lcmp hx hb d_Law_law_343 ?_
                refine lv_if_eq (tgt := 349) hx hb d_Law_law_344 (by decide) (fun c344 => ?_) (fun c344 => ?_)
                · refine lv_goto (tgt := 1114) hx hb d_Law_law_349 (by decide) ?_
                  refine W.widen (k := cells + 9) (n := slots + 69) (by omega) (by omega) ?_
                  exact kk _ _ _ ⟨hgx1, hJ3⟩ _ _ _ hP hS (lv_sub hl [2, 3, 4, 5, 6] rfl)
                · exact absurd (g_lcmp_refl _) c344
              · exact absurd hzv c335
          · exact absurd rfl c320
        · exact absurd c268 c301
      · have hJ2 : lJ ca L K o9 (x_label σ (xs (i + 1)) (xs (i + 2)) 0).1 σ (vp_updL f9 0 ((if (x_label σ (xs (i + 1)) (xs (i + 2)) 0).2.2 = 0 then 0 else 1))) w1 := by rw [hw9]; exact hJ1.out hgx1.1
        show W _ _ _ _ _ _ _ _ _ _ _ _ _ _ _ (F0 m 280 ls [.int (nI ((x_label σ (xs (i + 1)) (xs (i + 2)) 0).2.1))])
        obtain ⟨-, ⟨t8, A8, B8, hM8, hR8, -⟩, -, -⟩ := id hJ2
        have h16 : w1 (K 0) = some (.inr (7, [.int A8.thrown, .ref (K 1), .ref (K 2), .ref (K 3), .ref (K 4), .ref (K 5), .ref (K 6), .ref (K 7), .ref (K 8), .ref (K 9), .ref (K 10), .ref (K 11), .ref (K 12), .int (nI A8.tapeSize), .ref (K 13), .int A8.error, .int A8.off, .int A8.inside, .int (nI A8.changes), .int (nI A8.earlier), .int (nI A8.logged), .int A8.over, .int (nI A8.loose), .int A8.written, .int (nI A8.due)])) := hM8.1.2 0 (by decide)
        refine lv_istore (lv' := [(5, .int (nI ((x_label σ (xs (i + 1)) (xs (i + 2)) 0).2.1))), (0, .ref b), (1, .ref (L 0)), (2, .ref (K 0)), (3, .ref o9), (4, .int (nI i))]) hx hb d_Law_law_280 hl (by decide) rfl (fun ls hl => ?_)
        refine lv_aload_n hx hb d_Law_law_282 rfl (lv_at hl 3 rfl) ?_
        refine lv_aload_n hx hb d_Law_law_283 rfl (lv_at hl 1 rfl) ?_
        refine lv_iload hx hb d_Law_law_284 (lv_at hl 5 rfl) ?_
        refine lv_iconst (v := 1) hx hb d_Law_law_286 (by decide) ?_
        refine gk_iadd (x := i) (y := 1) hx hb d_Law_law_287 ?_
        refine va_sld hx hb hX hbl hbA hS (vp_in_nI (n := i + 1) (by omega) (by omega)) d_Law_law_288 ?_
        rw [nI_clamp (n := i + 1) (by omega)]
        refine lv_aload_n hx hb d_Law_law_289 rfl (lv_at hl 1 rfl) ?_
        refine lv_iload hx hb d_Law_law_290 (lv_at hl 5 rfl) ?_
        refine lv_iconst (v := 2) hx hb d_Law_law_292 (by decide) ?_
        refine gk_iadd (x := i) (y := 2) hx hb d_Law_law_293 ?_
        refine va_sld hx hb hX hbl hbA hS (vp_in_nI (n := i + 2) (by omega) (by omega)) d_Law_law_294 ?_
        rw [nI_clamp (n := i + 2) (by omega)]
        refine lv_aload_n hx hb d_Law_law_295 rfl (lv_at hl 1 rfl) ?_
        refine lv_iload hx hb d_Law_law_296 (lv_at hl 5 rfl) ?_
        refine lv_iconst (v := 3) hx hb d_Law_law_298 (by decide) ?_
        refine gk_iadd (x := i) (y := 3) hx hb d_Law_law_299 ?_
        refine va_sld hx hb hX hbl hbA hS (vp_in_nI (n := i + 3) (by omega) (by omega)) d_Law_law_300 ?_
        rw [nI_clamp (n := i + 3) (by omega)]
        refine lv_if_eq (tgt := 308) hx hb d_Law_law_301 (by decide) (fun c301 => ?_) (fun c301 => ?_)
        · refine lv_iconst (v := 0) hx hb d_Law_law_308 (by decide) ?_
          refine hv_call (hv_runV (As := [.int (xs (i + 1)), .int (xs (i + 2)), .int 0]) (rest := []) (c_Model_label C (xs (i + 1)) (xs (i + 2)) 0 hM8 hR8 hW (Or.inl rfl)) (hv_cw C hZ kc_Model_label kn_Model ⟨rfl, rfl, Nat.le_of_ble_eq_true rfl, Nat.le_of_ble_eq_true rfl⟩) hv_blind (hv_pre hZ hS hP) hx hml hb hown (hts _ k_Law_71) (hts _ ki_Model_label) (hts _ ksel_Model_Model_label) hy_Model_label (hts _ kc_Model_label) (va_recv hK (hv_one hP h16) (ci := 7) (q0 := 0) rfl rfl) rfl hl.1 rfl (lv_room (Nat.le_of_ble_eq_true rfl)) d_Law_law_309 ⟨by show _ ≤ 601024; omega, by show _ ≤ 7293034; omega⟩) hZ hS (fun v9 w17 H locs q18 hP hS => ?_) (fun x9 w17 H locs q18 hP hS => q18.elim)
          obtain ⟨x8, hv8, hx8, hS8⟩ := q18
          subst hv8
          have hx8 := hx8 hk9
          subst hx8
          have hJ3 := hJ2.mod hgx1.1 hS8
          show W _ _ _ _ _ _ _ _ _ _ _ _ _ _ _ (F0 m 312 ls [.int ((x_label σ (xs (i + 1)) (xs (i + 2)) 0).2.2)])
          obtain ⟨A7, B7, hM7, hR7, ht7⟩ := id hS8
          have h19 : w17 (K 0) = some (.inr (7, [.int A7.thrown, .ref (K 1), .ref (K 2), .ref (K 3), .ref (K 4), .ref (K 5), .ref (K 6), .ref (K 7), .ref (K 8), .ref (K 9), .ref (K 10), .ref (K 11), .ref (K 12), .int (nI A7.tapeSize), .ref (K 13), .int A7.error, .int A7.off, .int A7.inside, .int (nI A7.changes), .int (nI A7.earlier), .int (nI A7.logged), .int A7.over, .int (nI A7.loose), .int A7.written, .int (nI A7.due)])) := hM7.1.2 0 (by decide)
          have h20 : w17 o9 = some (.inl (ca 3, 1, .inr (.inl (vp_updL f9 0 ((if (x_label σ (xs (i + 1)) (xs (i + 2)) 0).2.2 = 0 then 0 else 1)))))) := hJ3.2.2.1
          refine lv_istore (lv' := [(6, .int ((x_label σ (xs (i + 1)) (xs (i + 2)) 0).2.2)), (5, .int (nI ((x_label σ (xs (i + 1)) (xs (i + 2)) 0).2.1))), (0, .ref b), (1, .ref (L 0)), (2, .ref (K 0)), (3, .ref o9), (4, .int (nI i))]) hx hb d_Law_law_312 hl (by decide) rfl (fun ls hl => ?_)
          refine lv_aload_n hx hb d_Law_law_314 rfl (lv_at hl 4 rfl) ?_
          refine hv_call (hv_runV (As := []) (rest := []) (c_Model_thrown C hM7) (hv_cw C hZ kc_Model_thrown kn_Model ⟨rfl, rfl, Nat.le_of_ble_eq_true rfl, Nat.le_of_ble_eq_true rfl⟩) hv_blind (hv_pre hZ hS hP) hx hml hb hown (hts _ k_Law_65) (hts _ ki_Model_thrown) (hts _ ksel_Model_Model_thrown) hy_Model_thrown (hts _ kc_Model_thrown) (va_recv hK (hv_one hP h19) (ci := 7) (q0 := 0) rfl rfl) rfl hl.1 rfl (lv_room (Nat.le_of_ble_eq_true rfl)) d_Law_law_315 ⟨by show _ ≤ 601024; omega, by show _ ≤ 7293034; omega⟩) hZ hS (fun v9 w21 H locs q22 hP hS => ?_) (fun x9 w21 H locs q22 hP hS => q22.elim)
          obtain ⟨hv9, hw9⟩ := q22
          subst hv9
          rw [hw9] at hP
          show W _ _ _ _ _ _ _ _ _ _ _ _ _ _ _ (F0 m 318 ls [.int A7.thrown])
          refine lv_topi (fun v9 e9 => ?_)
          have e9 : v9 = nI ((x_label σ (xs (i + 1)) (xs (i + 2)) 0).2.1) := e9.trans (ht7)
          subst e9
          show W _ _ _ _ _ _ _ _ _ _ _ _ _ _ _ (F0 m 318 ls [.int (nI ((x_label σ (xs (i + 1)) (xs (i + 2)) 0).2.1))])
          refine lv_iload hx hb d_Law_law_318 (lv_at hl 1 rfl) ?_
          refine gk_icmp_eq (x := (x_label σ (xs (i + 1)) (xs (i + 2)) 0).2.1) (y := (x_label σ (xs (i + 1)) (xs (i + 2)) 0).2.1) (tgt := 325) hx hb d_Law_law_320 (by decide) (by omega) (by omega) (fun c320 => ?_) (fun c320 => ?_)
          · refine lv_iload hx hb d_Law_law_325 (lv_at hl 1 rfl) ?_
            refine gk_if_ne (x := (x_label σ (xs (i + 1)) (xs (i + 2)) 0).2.1) (tgt := 349) hx hb d_Law_law_327 (by decide) (by omega) (fun c327 => ?_) (fun c327 => ?_)
            · exact absurd hk9 c327
            · refine lv_aload_n hx hb d_Law_law_330 rfl (lv_at hl 5 rfl) ?_
              refine lv_iconst (v := 0) hx hb d_Law_law_331 (by decide) ?_
              refine va_lald hx hb hK (hv_one hP h20) 0 3 rfl rfl (vp_in_nI (n := 0) (by omega) (by omega)) d_Law_law_332 ?_
              rw [show Int32.toNatClampNeg 0 = 0 by decide]
              refine lv_topl (fun v9 e9 => ?_)
              have e9 : v9 = 1 := e9.trans (m_uLs.trans (if_neg hzv))
              subst e9
              show W _ _ _ _ _ _ _ _ _ _ _ _ _ _ _ (F0 m 333 ls [.long 1])
              refine lv_iload hx hb d_Law_law_333 (lv_at hl 0 rfl) ?_
              refine lv_if_eq (tgt := 342) hx hb d_Law_law_335 (by decide) (fun c335 => ?_) (fun c335 => ?_)
              · exact absurd c335 hzv
              · refine lv_lconst (v := 1) hx hb d_Law_law_338 (by decide) ?_
                refine lv_goto (tgt := 343) hx hb d_Law_law_339 (by decide) ?_
                refine W.lcmp hx hb d_Law_law_343 ?_
                refine lv_if_eq (tgt := 349) hx hb d_Law_law_344 (by decide) (fun c344 => ?_) (fun c344 => ?_)
                · refine lv_goto (tgt := 1114) hx hb d_Law_law_349 (by decide) ?_
                  refine W.widen (k := cells + 9) (n := slots + 69) (by omega) (by omega) ?_
                  exact kk _ _ _ ⟨hgx1, hJ3⟩ _ _ _ hP hS (lv_sub hl [2, 3, 4, 5, 6] rfl)
                · exact absurd (g_lcmp_refl _) c344
          · exact absurd rfl c320
        · exact absurd c268 c301
  · refine lv_iconst (v := 1) hx hb d_Law_law_271 (by decide) ?_
    refine lv_goto (tgt := 276) hx hb d_Law_law_272 (by decide) ?_
    refine lv_aload_n hx hb d_Law_law_276 rfl (lv_at hl 3 rfl) ?_
    refine hv_call (hv_runS (As := [.ref (L 0), .int (xs (i + 1)), .int (xs (i + 2)), .int 1, .ref o9]) (rest := []) (c_Law_label C N (xs (i + 1)) (xs (i + 2)) 1 hM hR hW ho9 hlo (Or.inr rfl)) (hv_cwW C hZ kc_Law_label kn_Law ⟨rfl, rfl, Nat.le_of_ble_eq_true rfl, Nat.le_of_ble_eq_true rfl⟩) hv_blind (hv_pre hZ hS hP) hx hml hb hown (hts _ k_Law_68) (hts _ ki_Law_label) (hts _ kn_Law) hy_Law_label (hv_sigW (hts _ kc_Law_label)) rfl hl.1 rfl (lv_room (Nat.le_of_ble_eq_true rfl)) d_Law_law_277 ⟨by show _ ≤ 601024; omega, by show _ ≤ 7293034; omega⟩) hZ hS (fun v9 w23 H locs q24 hP hS => ?_) (fun x9 w23 H locs q24 hP hS => q24.elim)
    have hgx1 : gX (x_label σ (xs (i + 1)) (xs (i + 2)) 1).1 := gX_label hgx (xs (i + 1)) (xs (i + 2)) 1
    obtain ⟨hv9, hk2, w7, hP9, hcase⟩ := q24
    subst hv9
    have hJ1 := hJ.cls hP9
    rcases hcase with ⟨hk9, hw9⟩ | ⟨hk9, hw9⟩
    · have hJ2 : lJ ca L K o9 (x_label σ (xs (i + 1)) (xs (i + 2)) 1).1 σ f9 w23 := by rw [hw9]; exact hJ1
      show W _ _ _ _ _ _ _ _ _ _ _ _ _ _ _ (F0 m 280 ls [.int (nI ((x_label σ (xs (i + 1)) (xs (i + 2)) 1).2.1))])
      obtain ⟨-, ⟨t8, A8, B8, hM8, hR8, -⟩, -, -⟩ := id hJ2
      have h25 : w23 (K 0) = some (.inr (7, [.int A8.thrown, .ref (K 1), .ref (K 2), .ref (K 3), .ref (K 4), .ref (K 5), .ref (K 6), .ref (K 7), .ref (K 8), .ref (K 9), .ref (K 10), .ref (K 11), .ref (K 12), .int (nI A8.tapeSize), .ref (K 13), .int A8.error, .int A8.off, .int A8.inside, .int (nI A8.changes), .int (nI A8.earlier), .int (nI A8.logged), .int A8.over, .int (nI A8.loose), .int A8.written, .int (nI A8.due)])) := hM8.1.2 0 (by decide)
      refine lv_istore (lv' := [(5, .int (nI ((x_label σ (xs (i + 1)) (xs (i + 2)) 1).2.1))), (0, .ref b), (1, .ref (L 0)), (2, .ref (K 0)), (3, .ref o9), (4, .int (nI i))]) hx hb d_Law_law_280 hl (by decide) rfl (fun ls hl => ?_)
      refine lv_aload_n hx hb d_Law_law_282 rfl (lv_at hl 3 rfl) ?_
      refine lv_aload_n hx hb d_Law_law_283 rfl (lv_at hl 1 rfl) ?_
      refine lv_iload hx hb d_Law_law_284 (lv_at hl 5 rfl) ?_
      refine lv_iconst (v := 1) hx hb d_Law_law_286 (by decide) ?_
      refine gk_iadd (x := i) (y := 1) hx hb d_Law_law_287 ?_
      refine va_sld hx hb hX hbl hbA hS (vp_in_nI (n := i + 1) (by omega) (by omega)) d_Law_law_288 ?_
      rw [nI_clamp (n := i + 1) (by omega)]
      refine lv_aload_n hx hb d_Law_law_289 rfl (lv_at hl 1 rfl) ?_
      refine lv_iload hx hb d_Law_law_290 (lv_at hl 5 rfl) ?_
      refine lv_iconst (v := 2) hx hb d_Law_law_292 (by decide) ?_
      refine gk_iadd (x := i) (y := 2) hx hb d_Law_law_293 ?_
      refine va_sld hx hb hX hbl hbA hS (vp_in_nI (n := i + 2) (by omega) (by omega)) d_Law_law_294 ?_
      rw [nI_clamp (n := i + 2) (by omega)]
      refine lv_aload_n hx hb d_Law_law_295 rfl (lv_at hl 1 rfl) ?_
      refine lv_iload hx hb d_Law_law_296 (lv_at hl 5 rfl) ?_
      refine lv_iconst (v := 3) hx hb d_Law_law_298 (by decide) ?_
      refine gk_iadd (x := i) (y := 3) hx hb d_Law_law_299 ?_
      refine va_sld hx hb hX hbl hbA hS (vp_in_nI (n := i + 3) (by omega) (by omega)) d_Law_law_300 ?_
      rw [nI_clamp (n := i + 3) (by omega)]
      refine lv_if_eq (tgt := 308) hx hb d_Law_law_301 (by decide) (fun c301 => ?_) (fun c301 => ?_)
      · exact absurd c301 c268
      · refine lv_iconst (v := 1) hx hb d_Law_law_304 (by decide) ?_
        refine lv_goto (tgt := 309) hx hb d_Law_law_305 (by decide) ?_
        refine hv_call (hv_runV (As := [.int (xs (i + 1)), .int (xs (i + 2)), .int 1]) (rest := []) (c_Model_label C (xs (i + 1)) (xs (i + 2)) 1 hM8 hR8 hW (Or.inr rfl)) (hv_cw C hZ kc_Model_label kn_Model ⟨rfl, rfl, Nat.le_of_ble_eq_true rfl, Nat.le_of_ble_eq_true rfl⟩) hv_blind (hv_pre hZ hS hP) hx hml hb hown (hts _ k_Law_71) (hts _ ki_Model_label) (hts _ ksel_Model_Model_label) hy_Model_label (hts _ kc_Model_label) (va_recv hK (hv_one hP h25) (ci := 7) (q0 := 0) rfl rfl) rfl hl.1 rfl (lv_room (Nat.le_of_ble_eq_true rfl)) d_Law_law_309 ⟨by show _ ≤ 601024; omega, by show _ ≤ 7293034; omega⟩) hZ hS (fun v9 w26 H locs q27 hP hS => ?_) (fun x9 w26 H locs q27 hP hS => q27.elim)
        obtain ⟨x8, hv8, hx8, hS8⟩ := q27
        subst hv8
        have hJ3 := hJ2.mod hgx1.1 hS8
        show W _ _ _ _ _ _ _ _ _ _ _ _ _ _ _ (F0 m 312 ls [.int x8])
        obtain ⟨A7, B7, hM7, hR7, ht7⟩ := id hS8
        have h28 : w26 (K 0) = some (.inr (7, [.int A7.thrown, .ref (K 1), .ref (K 2), .ref (K 3), .ref (K 4), .ref (K 5), .ref (K 6), .ref (K 7), .ref (K 8), .ref (K 9), .ref (K 10), .ref (K 11), .ref (K 12), .int (nI A7.tapeSize), .ref (K 13), .int A7.error, .int A7.off, .int A7.inside, .int (nI A7.changes), .int (nI A7.earlier), .int (nI A7.logged), .int A7.over, .int (nI A7.loose), .int A7.written, .int (nI A7.due)])) := hM7.1.2 0 (by decide)
        refine lv_istore (lv' := [(6, .int x8), (5, .int (nI ((x_label σ (xs (i + 1)) (xs (i + 2)) 1).2.1))), (0, .ref b), (1, .ref (L 0)), (2, .ref (K 0)), (3, .ref o9), (4, .int (nI i))]) hx hb d_Law_law_312 hl (by decide) rfl (fun ls hl => ?_)
        refine lv_aload_n hx hb d_Law_law_314 rfl (lv_at hl 4 rfl) ?_
        refine hv_call (hv_runV (As := []) (rest := []) (c_Model_thrown C hM7) (hv_cw C hZ kc_Model_thrown kn_Model ⟨rfl, rfl, Nat.le_of_ble_eq_true rfl, Nat.le_of_ble_eq_true rfl⟩) hv_blind (hv_pre hZ hS hP) hx hml hb hown (hts _ k_Law_65) (hts _ ki_Model_thrown) (hts _ ksel_Model_Model_thrown) hy_Model_thrown (hts _ kc_Model_thrown) (va_recv hK (hv_one hP h28) (ci := 7) (q0 := 0) rfl rfl) rfl hl.1 rfl (lv_room (Nat.le_of_ble_eq_true rfl)) d_Law_law_315 ⟨by show _ ≤ 601024; omega, by show _ ≤ 7293034; omega⟩) hZ hS (fun v9 w29 H locs q30 hP hS => ?_) (fun x9 w29 H locs q30 hP hS => q30.elim)
        obtain ⟨hv9, hw9⟩ := q30
        subst hv9
        rw [hw9] at hP
        show W _ _ _ _ _ _ _ _ _ _ _ _ _ _ _ (F0 m 318 ls [.int A7.thrown])
        refine lv_topi (fun v9 e9 => ?_)
        have e9 : v9 = nI ((x_label σ (xs (i + 1)) (xs (i + 2)) 1).2.1) := e9.trans (ht7)
        subst e9
        show W _ _ _ _ _ _ _ _ _ _ _ _ _ _ _ (F0 m 318 ls [.int (nI ((x_label σ (xs (i + 1)) (xs (i + 2)) 1).2.1))])
        refine lv_iload hx hb d_Law_law_318 (lv_at hl 1 rfl) ?_
        refine gk_icmp_eq (x := (x_label σ (xs (i + 1)) (xs (i + 2)) 1).2.1) (y := (x_label σ (xs (i + 1)) (xs (i + 2)) 1).2.1) (tgt := 325) hx hb d_Law_law_320 (by decide) (by omega) (by omega) (fun c320 => ?_) (fun c320 => ?_)
        · refine lv_iload hx hb d_Law_law_325 (lv_at hl 1 rfl) ?_
          refine gk_if_ne (x := (x_label σ (xs (i + 1)) (xs (i + 2)) 1).2.1) (tgt := 349) hx hb d_Law_law_327 (by decide) (by omega) (fun c327 => ?_) (fun c327 => ?_)
          · refine lv_goto (tgt := 1114) hx hb d_Law_law_349 (by decide) ?_
            refine W.widen (k := cells + 9) (n := slots + 69) (by omega) (by omega) ?_
            exact kk _ _ _ ⟨hgx1, hJ3⟩ _ _ _ hP hS (lv_sub hl [2, 3, 4, 5, 6] rfl)
          · exact absurd c327 hk9
        · exact absurd rfl c320
    · rcases Classical.em ((x_label σ (xs (i + 1)) (xs (i + 2)) 1).2.2 = 0) with hzv | hzv
      · have hJ2 : lJ ca L K o9 (x_label σ (xs (i + 1)) (xs (i + 2)) 1).1 σ (vp_updL f9 0 ((if (x_label σ (xs (i + 1)) (xs (i + 2)) 1).2.2 = 0 then 0 else 1))) w23 := by rw [hw9]; exact hJ1.out hgx1.1
        show W _ _ _ _ _ _ _ _ _ _ _ _ _ _ _ (F0 m 280 ls [.int (nI ((x_label σ (xs (i + 1)) (xs (i + 2)) 1).2.1))])
        obtain ⟨-, ⟨t8, A8, B8, hM8, hR8, -⟩, -, -⟩ := id hJ2
        have h31 : w23 (K 0) = some (.inr (7, [.int A8.thrown, .ref (K 1), .ref (K 2), .ref (K 3), .ref (K 4), .ref (K 5), .ref (K 6), .ref (K 7), .ref (K 8), .ref (K 9), .ref (K 10), .ref (K 11), .ref (K 12), .int (nI A8.tapeSize), .ref (K 13), .int A8.error, .int A8.off, .int A8.inside, .int (nI A8.changes), .int (nI A8.earlier), .int (nI A8.logged), .int A8.over, .int (nI A8.loose), .int A8.written, .int (nI A8.due)])) := hM8.1.2 0 (by decide)
        refine lv_istore (lv' := [(5, .int (nI ((x_label σ (xs (i + 1)) (xs (i + 2)) 1).2.1))), (0, .ref b), (1, .ref (L 0)), (2, .ref (K 0)), (3, .ref o9), (4, .int (nI i))]) hx hb d_Law_law_280 hl (by decide) rfl (fun ls hl => ?_)
        refine lv_aload_n hx hb d_Law_law_282 rfl (lv_at hl 3 rfl) ?_
        refine lv_aload_n hx hb d_Law_law_283 rfl (lv_at hl 1 rfl) ?_
        refine lv_iload hx hb d_Law_law_284 (lv_at hl 5 rfl) ?_
        refine lv_iconst (v := 1) hx hb d_Law_law_286 (by decide) ?_
        refine gk_iadd (x := i) (y := 1) hx hb d_Law_law_287 ?_
        refine va_sld hx hb hX hbl hbA hS (vp_in_nI (n := i + 1) (by omega) (by omega)) d_Law_law_288 ?_
        rw [nI_clamp (n := i + 1) (by omega)]
        refine lv_aload_n hx hb d_Law_law_289 rfl (lv_at hl 1 rfl) ?_
        refine lv_iload hx hb d_Law_law_290 (lv_at hl 5 rfl) ?_
        refine lv_iconst (v := 2) hx hb d_Law_law_292 (by decide) ?_
        refine gk_iadd (x := i) (y := 2) hx hb d_Law_law_293 ?_
        refine va_sld hx hb hX hbl hbA hS (vp_in_nI (n := i + 2) (by omega) (by omega)) d_Law_law_294 ?_
        rw [nI_clamp (n := i + 2) (by omega)]
        refine lv_aload_n hx hb d_Law_law_295 rfl (lv_at hl 1 rfl) ?_
        refine lv_iload hx hb d_Law_law_296 (lv_at hl 5 rfl) ?_
        refine lv_iconst (v := 3) hx hb d_Law_law_298 (by decide) ?_
        refine gk_iadd (x := i) (y := 3) hx hb d_Law_law_299 ?_
        refine va_sld hx hb hX hbl hbA hS (vp_in_nI (n := i + 3) (by omega) (by omega)) d_Law_law_300 ?_
        rw [nI_clamp (n := i + 3) (by omega)]
        refine lv_if_eq (tgt := 308) hx hb d_Law_law_301 (by decide) (fun c301 => ?_) (fun c301 => ?_)
        · exact absurd c301 c268
        · refine lv_iconst (v := 1) hx hb d_Law_law_304 (by decide) ?_
          refine lv_goto (tgt := 309) hx hb d_Law_law_305 (by decide) ?_
          refine hv_call (hv_runV (As := [.int (xs (i + 1)), .int (xs (i + 2)), .int 1]) (rest := []) (c_Model_label C (xs (i + 1)) (xs (i + 2)) 1 hM8 hR8 hW (Or.inr rfl)) (hv_cw C hZ kc_Model_label kn_Model ⟨rfl, rfl, Nat.le_of_ble_eq_true rfl, Nat.le_of_ble_eq_true rfl⟩) hv_blind (hv_pre hZ hS hP) hx hml hb hown (hts _ k_Law_71) (hts _ ki_Model_label) (hts _ ksel_Model_Model_label) hy_Model_label (hts _ kc_Model_label) (va_recv hK (hv_one hP h31) (ci := 7) (q0 := 0) rfl rfl) rfl hl.1 rfl (lv_room (Nat.le_of_ble_eq_true rfl)) d_Law_law_309 ⟨by show _ ≤ 601024; omega, by show _ ≤ 7293034; omega⟩) hZ hS (fun v9 w32 H locs q33 hP hS => ?_) (fun x9 w32 H locs q33 hP hS => q33.elim)
          obtain ⟨x8, hv8, hx8, hS8⟩ := q33
          subst hv8
          have hx8 := hx8 hk9
          subst hx8
          have hJ3 := hJ2.mod hgx1.1 hS8
          show W _ _ _ _ _ _ _ _ _ _ _ _ _ _ _ (F0 m 312 ls [.int ((x_label σ (xs (i + 1)) (xs (i + 2)) 1).2.2)])
          obtain ⟨A7, B7, hM7, hR7, ht7⟩ := id hS8
          have h34 : w32 (K 0) = some (.inr (7, [.int A7.thrown, .ref (K 1), .ref (K 2), .ref (K 3), .ref (K 4), .ref (K 5), .ref (K 6), .ref (K 7), .ref (K 8), .ref (K 9), .ref (K 10), .ref (K 11), .ref (K 12), .int (nI A7.tapeSize), .ref (K 13), .int A7.error, .int A7.off, .int A7.inside, .int (nI A7.changes), .int (nI A7.earlier), .int (nI A7.logged), .int A7.over, .int (nI A7.loose), .int A7.written, .int (nI A7.due)])) := hM7.1.2 0 (by decide)
          have h35 : w32 o9 = some (.inl (ca 3, 1, .inr (.inl (vp_updL f9 0 ((if (x_label σ (xs (i + 1)) (xs (i + 2)) 1).2.2 = 0 then 0 else 1)))))) := hJ3.2.2.1
          refine lv_istore (lv' := [(6, .int ((x_label σ (xs (i + 1)) (xs (i + 2)) 1).2.2)), (5, .int (nI ((x_label σ (xs (i + 1)) (xs (i + 2)) 1).2.1))), (0, .ref b), (1, .ref (L 0)), (2, .ref (K 0)), (3, .ref o9), (4, .int (nI i))]) hx hb d_Law_law_312 hl (by decide) rfl (fun ls hl => ?_)
          refine lv_aload_n hx hb d_Law_law_314 rfl (lv_at hl 4 rfl) ?_
          refine hv_call (hv_runV (As := []) (rest := []) (c_Model_thrown C hM7) (hv_cw C hZ kc_Model_thrown kn_Model ⟨rfl, rfl, Nat.le_of_ble_eq_true rfl, Nat.le_of_ble_eq_true rfl⟩) hv_blind (hv_pre hZ hS hP) hx hml hb hown (hts _ k_Law_65) (hts _ ki_Model_thrown) (hts _ ksel_Model_Model_thrown) hy_Model_thrown (hts _ kc_Model_thrown) (va_recv hK (hv_one hP h34) (ci := 7) (q0 := 0) rfl rfl) rfl hl.1 rfl (lv_room (Nat.le_of_ble_eq_true rfl)) d_Law_law_315 ⟨by show _ ≤ 601024; omega, by show _ ≤ 7293034; omega⟩) hZ hS (fun v9 w36 H locs q37 hP hS => ?_) (fun x9 w36 H locs q37 hP hS => q37.elim)
          obtain ⟨hv9, hw9⟩ := q37
          subst hv9
          rw [hw9] at hP
          show W _ _ _ _ _ _ _ _ _ _ _ _ _ _ _ (F0 m 318 ls [.int A7.thrown])
          refine lv_topi (fun v9 e9 => ?_)
          have e9 : v9 = nI ((x_label σ (xs (i + 1)) (xs (i + 2)) 1).2.1) := e9.trans (ht7)
          subst e9
          show W _ _ _ _ _ _ _ _ _ _ _ _ _ _ _ (F0 m 318 ls [.int (nI ((x_label σ (xs (i + 1)) (xs (i + 2)) 1).2.1))])
          refine lv_iload hx hb d_Law_law_318 (lv_at hl 1 rfl) ?_
          refine gk_icmp_eq (x := (x_label σ (xs (i + 1)) (xs (i + 2)) 1).2.1) (y := (x_label σ (xs (i + 1)) (xs (i + 2)) 1).2.1) (tgt := 325) hx hb d_Law_law_320 (by decide) (by omega) (by omega) (fun c320 => ?_) (fun c320 => ?_)
          · refine lv_iload hx hb d_Law_law_325 (lv_at hl 1 rfl) ?_
            refine gk_if_ne (x := (x_label σ (xs (i + 1)) (xs (i + 2)) 1).2.1) (tgt := 349) hx hb d_Law_law_327 (by decide) (by omega) (fun c327 => ?_) (fun c327 => ?_)
            · exact absurd hk9 c327
            · refine lv_aload_n hx hb d_Law_law_330 rfl (lv_at hl 5 rfl) ?_
              refine lv_iconst (v := 0) hx hb d_Law_law_331 (by decide) ?_
              refine va_lald hx hb hK (hv_one hP h35) 0 3 rfl rfl (vp_in_nI (n := 0) (by omega) (by omega)) d_Law_law_332 ?_
              rw [show Int32.toNatClampNeg 0 = 0 by decide]
              refine lv_topl (fun v9 e9 => ?_)
              have e9 : v9 = 0 := e9.trans (m_uLs.trans (if_pos hzv))
              subst e9
              show W _ _ _ _ _ _ _ _ _ _ _ _ _ _ _ (F0 m 333 ls [.long 0])
              refine lv_iload hx hb d_Law_law_333 (lv_at hl 0 rfl) ?_
              refine lv_if_eq (tgt := 342) hx hb d_Law_law_335 (by decide) (fun c335 => ?_) (fun c335 => ?_)
              · refine lv_lconst (v := 0) hx hb d_Law_law_342 (by decide) ?_
                refine W.lcmp hx hb d_Law_law_343 ?_
                refine lv_if_eq (tgt := 349) hx hb d_Law_law_344 (by decide) (fun c344 => ?_) (fun c344 => ?_)
                · refine lv_goto (tgt := 1114) hx hb d_Law_law_349 (by decide) ?_
                  refine W.widen (k := cells + 9) (n := slots + 69) (by omega) (by omega) ?_
                  exact kk _ _ _ ⟨hgx1, hJ3⟩ _ _ _ hP hS (lv_sub hl [2, 3, 4, 5, 6] rfl)
                · exact absurd (g_lcmp_refl _) c344
              · exact absurd hzv c335
          · exact absurd rfl c320
      · have hJ2 : lJ ca L K o9 (x_label σ (xs (i + 1)) (xs (i + 2)) 1).1 σ (vp_updL f9 0 ((if (x_label σ (xs (i + 1)) (xs (i + 2)) 1).2.2 = 0 then 0 else 1))) w23 := by rw [hw9]; exact hJ1.out hgx1.1
        show W _ _ _ _ _ _ _ _ _ _ _ _ _ _ _ (F0 m 280 ls [.int (nI ((x_label σ (xs (i + 1)) (xs (i + 2)) 1).2.1))])
        obtain ⟨-, ⟨t8, A8, B8, hM8, hR8, -⟩, -, -⟩ := id hJ2
        have h38 : w23 (K 0) = some (.inr (7, [.int A8.thrown, .ref (K 1), .ref (K 2), .ref (K 3), .ref (K 4), .ref (K 5), .ref (K 6), .ref (K 7), .ref (K 8), .ref (K 9), .ref (K 10), .ref (K 11), .ref (K 12), .int (nI A8.tapeSize), .ref (K 13), .int A8.error, .int A8.off, .int A8.inside, .int (nI A8.changes), .int (nI A8.earlier), .int (nI A8.logged), .int A8.over, .int (nI A8.loose), .int A8.written, .int (nI A8.due)])) := hM8.1.2 0 (by decide)
        refine lv_istore (lv' := [(5, .int (nI ((x_label σ (xs (i + 1)) (xs (i + 2)) 1).2.1))), (0, .ref b), (1, .ref (L 0)), (2, .ref (K 0)), (3, .ref o9), (4, .int (nI i))]) hx hb d_Law_law_280 hl (by decide) rfl (fun ls hl => ?_)
        refine lv_aload_n hx hb d_Law_law_282 rfl (lv_at hl 3 rfl) ?_
        refine lv_aload_n hx hb d_Law_law_283 rfl (lv_at hl 1 rfl) ?_
        refine lv_iload hx hb d_Law_law_284 (lv_at hl 5 rfl) ?_
        refine lv_iconst (v := 1) hx hb d_Law_law_286 (by decide) ?_
        refine gk_iadd (x := i) (y := 1) hx hb d_Law_law_287 ?_
        refine va_sld hx hb hX hbl hbA hS (vp_in_nI (n := i + 1) (by omega) (by omega)) d_Law_law_288 ?_
        rw [nI_clamp (n := i + 1) (by omega)]
        refine lv_aload_n hx hb d_Law_law_289 rfl (lv_at hl 1 rfl) ?_
        refine lv_iload hx hb d_Law_law_290 (lv_at hl 5 rfl) ?_
        refine lv_iconst (v := 2) hx hb d_Law_law_292 (by decide) ?_
        refine gk_iadd (x := i) (y := 2) hx hb d_Law_law_293 ?_
        refine va_sld hx hb hX hbl hbA hS (vp_in_nI (n := i + 2) (by omega) (by omega)) d_Law_law_294 ?_
        rw [nI_clamp (n := i + 2) (by omega)]
        refine lv_aload_n hx hb d_Law_law_295 rfl (lv_at hl 1 rfl) ?_
        refine lv_iload hx hb d_Law_law_296 (lv_at hl 5 rfl) ?_
        refine lv_iconst (v := 3) hx hb d_Law_law_298 (by decide) ?_
        refine gk_iadd (x := i) (y := 3) hx hb d_Law_law_299 ?_
        refine va_sld hx hb hX hbl hbA hS (vp_in_nI (n := i + 3) (by omega) (by omega)) d_Law_law_300 ?_
        rw [nI_clamp (n := i + 3) (by omega)]
        refine lv_if_eq (tgt := 308) hx hb d_Law_law_301 (by decide) (fun c301 => ?_) (fun c301 => ?_)
        · exact absurd c301 c268
        · refine lv_iconst (v := 1) hx hb d_Law_law_304 (by decide) ?_
          refine lv_goto (tgt := 309) hx hb d_Law_law_305 (by decide) ?_
          refine hv_call (hv_runV (As := [.int (xs (i + 1)), .int (xs (i + 2)), .int 1]) (rest := []) (c_Model_label C (xs (i + 1)) (xs (i + 2)) 1 hM8 hR8 hW (Or.inr rfl)) (hv_cw C hZ kc_Model_label kn_Model ⟨rfl, rfl, Nat.le_of_ble_eq_true rfl, Nat.le_of_ble_eq_true rfl⟩) hv_blind (hv_pre hZ hS hP) hx hml hb hown (hts _ k_Law_71) (hts _ ki_Model_label) (hts _ ksel_Model_Model_label) hy_Model_label (hts _ kc_Model_label) (va_recv hK (hv_one hP h38) (ci := 7) (q0 := 0) rfl rfl) rfl hl.1 rfl (lv_room (Nat.le_of_ble_eq_true rfl)) d_Law_law_309 ⟨by show _ ≤ 601024; omega, by show _ ≤ 7293034; omega⟩) hZ hS (fun v9 w39 H locs q40 hP hS => ?_) (fun x9 w39 H locs q40 hP hS => q40.elim)
          obtain ⟨x8, hv8, hx8, hS8⟩ := q40
          subst hv8
          have hx8 := hx8 hk9
          subst hx8
          have hJ3 := hJ2.mod hgx1.1 hS8
          show W _ _ _ _ _ _ _ _ _ _ _ _ _ _ _ (F0 m 312 ls [.int ((x_label σ (xs (i + 1)) (xs (i + 2)) 1).2.2)])
          obtain ⟨A7, B7, hM7, hR7, ht7⟩ := id hS8
          have h41 : w39 (K 0) = some (.inr (7, [.int A7.thrown, .ref (K 1), .ref (K 2), .ref (K 3), .ref (K 4), .ref (K 5), .ref (K 6), .ref (K 7), .ref (K 8), .ref (K 9), .ref (K 10), .ref (K 11), .ref (K 12), .int (nI A7.tapeSize), .ref (K 13), .int A7.error, .int A7.off, .int A7.inside, .int (nI A7.changes), .int (nI A7.earlier), .int (nI A7.logged), .int A7.over, .int (nI A7.loose), .int A7.written, .int (nI A7.due)])) := hM7.1.2 0 (by decide)
          have h42 : w39 o9 = some (.inl (ca 3, 1, .inr (.inl (vp_updL f9 0 ((if (x_label σ (xs (i + 1)) (xs (i + 2)) 1).2.2 = 0 then 0 else 1)))))) := hJ3.2.2.1
          refine lv_istore (lv' := [(6, .int ((x_label σ (xs (i + 1)) (xs (i + 2)) 1).2.2)), (5, .int (nI ((x_label σ (xs (i + 1)) (xs (i + 2)) 1).2.1))), (0, .ref b), (1, .ref (L 0)), (2, .ref (K 0)), (3, .ref o9), (4, .int (nI i))]) hx hb d_Law_law_312 hl (by decide) rfl (fun ls hl => ?_)
          refine lv_aload_n hx hb d_Law_law_314 rfl (lv_at hl 4 rfl) ?_
          refine hv_call (hv_runV (As := []) (rest := []) (c_Model_thrown C hM7) (hv_cw C hZ kc_Model_thrown kn_Model ⟨rfl, rfl, Nat.le_of_ble_eq_true rfl, Nat.le_of_ble_eq_true rfl⟩) hv_blind (hv_pre hZ hS hP) hx hml hb hown (hts _ k_Law_65) (hts _ ki_Model_thrown) (hts _ ksel_Model_Model_thrown) hy_Model_thrown (hts _ kc_Model_thrown) (va_recv hK (hv_one hP h41) (ci := 7) (q0 := 0) rfl rfl) rfl hl.1 rfl (lv_room (Nat.le_of_ble_eq_true rfl)) d_Law_law_315 ⟨by show _ ≤ 601024; omega, by show _ ≤ 7293034; omega⟩) hZ hS (fun v9 w43 H locs q44 hP hS => ?_) (fun x9 w43 H locs q44 hP hS => q44.elim)
          obtain ⟨hv9, hw9⟩ := q44
          subst hv9
          rw [hw9] at hP
          show W _ _ _ _ _ _ _ _ _ _ _ _ _ _ _ (F0 m 318 ls [.int A7.thrown])
          refine lv_topi (fun v9 e9 => ?_)
          have e9 : v9 = nI ((x_label σ (xs (i + 1)) (xs (i + 2)) 1).2.1) := e9.trans (ht7)
          subst e9
          show W _ _ _ _ _ _ _ _ _ _ _ _ _ _ _ (F0 m 318 ls [.int (nI ((x_label σ (xs (i + 1)) (xs (i + 2)) 1).2.1))])
          refine lv_iload hx hb d_Law_law_318 (lv_at hl 1 rfl) ?_
          refine gk_icmp_eq (x := (x_label σ (xs (i + 1)) (xs (i + 2)) 1).2.1) (y := (x_label σ (xs (i + 1)) (xs (i + 2)) 1).2.1) (tgt := 325) hx hb d_Law_law_320 (by decide) (by omega) (by omega) (fun c320 => ?_) (fun c320 => ?_)
          · refine lv_iload hx hb d_Law_law_325 (lv_at hl 1 rfl) ?_
            refine gk_if_ne (x := (x_label σ (xs (i + 1)) (xs (i + 2)) 1).2.1) (tgt := 349) hx hb d_Law_law_327 (by decide) (by omega) (fun c327 => ?_) (fun c327 => ?_)
            · exact absurd hk9 c327
            · refine lv_aload_n hx hb d_Law_law_330 rfl (lv_at hl 5 rfl) ?_
              refine lv_iconst (v := 0) hx hb d_Law_law_331 (by decide) ?_
              refine va_lald hx hb hK (hv_one hP h42) 0 3 rfl rfl (vp_in_nI (n := 0) (by omega) (by omega)) d_Law_law_332 ?_
              rw [show Int32.toNatClampNeg 0 = 0 by decide]
              refine lv_topl (fun v9 e9 => ?_)
              have e9 : v9 = 1 := e9.trans (m_uLs.trans (if_neg hzv))
              subst e9
              show W _ _ _ _ _ _ _ _ _ _ _ _ _ _ _ (F0 m 333 ls [.long 1])
              refine lv_iload hx hb d_Law_law_333 (lv_at hl 0 rfl) ?_
              refine lv_if_eq (tgt := 342) hx hb d_Law_law_335 (by decide) (fun c335 => ?_) (fun c335 => ?_)
              · exact absurd c335 hzv
              · refine lv_lconst (v := 1) hx hb d_Law_law_338 (by decide) ?_
                refine lv_goto (tgt := 343) hx hb d_Law_law_339 (by decide) ?_
                refine W.lcmp hx hb d_Law_law_343 ?_
                refine lv_if_eq (tgt := 349) hx hb d_Law_law_344 (by decide) (fun c344 => ?_) (fun c344 => ?_)
                · refine lv_goto (tgt := 1114) hx hb d_Law_law_349 (by decide) ?_
                  refine W.widen (k := cells + 9) (n := slots + 69) (by omega) (by omega) ?_
                  exact kk _ _ _ ⟨hgx1, hJ3⟩ _ _ _ hP hS (lv_sub hl [2, 3, 4, 5, 6] rfl)
                · exact absurd (g_lcmp_refl _) c344
          · exact absurd rfl c320
