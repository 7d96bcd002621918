set_option maxHeartbeats 4000000 in
set_option maxRecDepth 100000 in
theorem lc_property {p : Program} {l : Launch} {e : Env} {s : State} {m : MethodId} {below : List Frame} {meth : Method} {c : Code} {D : va_G} {ca : Nat → ClassId} {b n0 : Nat} {xs : Nat → Int32} {Q : State → Prop} (F : lF l s D ca p m c b n0 xs) {L K : Nat → Nat} {o9 i cells slots : Nat} (hi : i + 7 ≤ n0) (hcl : cells + 9 ≤ 601024) (hsl : slots + 69 ≤ 7293034) (kk : lKK p l e s m below meth c D ca L K o9 b i cells slots Q)
    {w : hv_W} {σ : gS} {f9 : Nat → Int64} (I : lI ca L K o9 σ f9 w) {H : Heap} {locs : List Loc} {ls : Array Slot} (hP : hv_P D classes s.heap.size w H) (hS : va_S (hv_A s.heap.size) s.heap H locs) (hl : lv_has ls 8 (lLoc b L K o9 i)) : W p l e room_1 s m #[Value.ref b] below meth c H locs cells slots Q (F0 m 352 ls []) := by
  obtain ⟨C, N, hx, hb, hml, hown, hts, hX, hbl, hn0⟩ := F
  have hK : va_K D classes (hv_tys ca) s := C.1
  have hZ : hv_Z s s := hv_Z.refl s
  have hbA : ¬ hv_A s.heap.size b := Nat.not_le.mpr hbl
  have hl : lv_has ls 8 [(0, .ref b), (1, .ref (L 0)), (2, .ref (K 0)), (3, .ref o9), (4, .int (nI i))] := hl
  obtain ⟨hgx, hJ⟩ := I
  have hW : gW σ := hgx.1
  obtain ⟨⟨P, hM, hR⟩, -, ho9, hap⟩ := id hJ
  have hlo : ¬ cM L o9 := hap.2.2.1
  have h0 : w (L 0) = some (.inr (0, [.ref (L 1), .ref (L 2), .ref (L 3), .ref (L 4), .ref (L 5), .ref (L 6), .ref (L 7), .int (σ.err), .int (nI σ.sc), .int (nI σ.ec), .int (σ.ins), .int (σ.off)])) := hM.1.2 0 (by decide)
  refine lv_aload_n hx hb d_Law_law_352 rfl (lv_at hl 1 rfl) ?_
  refine lv_aload_n hx hb d_Law_law_353 rfl (lv_at hl 0 rfl) ?_
  refine lv_iload hx hb d_Law_law_354 (lv_at hl 4 rfl) ?_
  refine lv_iconst (v := 1) hx hb d_Law_law_356 (by decide) ?_
  refine gk_iadd (x := i) (y := 1) hx hb d_Law_law_357 ?_
  refine va_sld hx hb hX hbl hbA hS (vp_in_nI (n := i + 1) (by omega) (by omega)) d_Law_law_358 ?_
  rw [nI_clamp (n := i + 1) (by omega)]
  refine lv_aload_n hx hb d_Law_law_359 rfl (lv_at hl 0 rfl) ?_
  refine lv_iload hx hb d_Law_law_360 (lv_at hl 4 rfl) ?_
  refine lv_iconst (v := 2) hx hb d_Law_law_362 (by decide) ?_
  refine gk_iadd (x := i) (y := 2) hx hb d_Law_law_363 ?_
  refine va_sld hx hb hX hbl hbA hS (vp_in_nI (n := i + 2) (by omega) (by omega)) d_Law_law_364 ?_
  rw [nI_clamp (n := i + 2) (by omega)]
  refine lv_aload_n hx hb d_Law_law_365 rfl (lv_at hl 0 rfl) ?_
  refine lv_iload hx hb d_Law_law_366 (lv_at hl 4 rfl) ?_
  refine lv_iconst (v := 3) hx hb d_Law_law_368 (by decide) ?_
  refine gk_iadd (x := i) (y := 3) hx hb d_Law_law_369 ?_
  refine va_sld hx hb hX hbl hbA hS (vp_in_nI (n := i + 3) (by omega) (by omega)) d_Law_law_370 ?_
  rw [nI_clamp (n := i + 3) (by omega)]
  refine lv_aload_n hx hb d_Law_law_371 rfl (lv_at hl 0 rfl) ?_
  refine lv_iload hx hb d_Law_law_372 (lv_at hl 4 rfl) ?_
  refine lv_iconst (v := 4) hx hb d_Law_law_374 (by decide) ?_
  refine gk_iadd (x := i) (y := 4) hx hb d_Law_law_375 ?_
  refine va_sld hx hb hX hbl hbA hS (vp_in_nI (n := i + 4) (by omega) (by omega)) d_Law_law_376 ?_
  rw [nI_clamp (n := i + 4) (by omega)]
  refine lv_aload_n hx hb d_Law_law_377 rfl (lv_at hl 0 rfl) ?_
  refine lv_iload hx hb d_Law_law_378 (lv_at hl 4 rfl) ?_
  refine lv_iconst (v := 5) hx hb d_Law_law_380 (by decide) ?_
  refine gk_iadd (x := i) (y := 5) hx hb d_Law_law_381 ?_
  refine va_sld hx hb hX hbl hbA hS (vp_in_nI (n := i + 5) (by omega) (by omega)) d_Law_law_382 ?_
  rw [nI_clamp (n := i + 5) (by omega)]
  refine lv_i2l (v := (xs (i + 5)).toInt64) hx hb d_Law_law_383 rfl ?_
  refine lv_bipush (v := 32) hx hb d_Law_law_384 (by decide) ?_
  refine lv_lshl (v := ((xs (i + 5)).toInt64) <<< ((32 : Int32).toInt64 &&& 63)) hx hb d_Law_law_386 rfl ?_
  refine lv_aload_n hx hb d_Law_law_387 rfl (lv_at hl 0 rfl) ?_
  refine lv_iload hx hb d_Law_law_388 (lv_at hl 4 rfl) ?_
  refine lv_bipush (v := 6) hx hb d_Law_law_390 (by decide) ?_
  refine gk_iadd (x := i) (y := 6) hx hb d_Law_law_392 ?_
  refine va_sld hx hb hX hbl hbA hS (vp_in_nI (n := i + 6) (by omega) (by omega)) d_Law_law_393 ?_
  rw [nI_clamp (n := i + 6) (by omega)]
  refine lv_i2l (v := (xs (i + 6)).toInt64) hx hb d_Law_law_394 rfl ?_
  refine lv_ldc2 (v := 4294967295) hx hb hown (hts _ k_Law_52) d_Law_law_395 ?_
  refine lv_land hx hb d_Law_law_398 ?_
  refine lv_lor hx hb d_Law_law_399 ?_
  refine lv_aload_n hx hb d_Law_law_400 rfl (lv_at hl 3 rfl) ?_
  refine hv_call (hv_runS (As := [.ref (L 0), .int (xs (i + 1)), .int (xs (i + 2)), .int (xs (i + 3)), .int (xs (i + 4)), .long ((((xs (i + 5)).toInt64) <<< ((32 : Int32).toInt64 &&& 63)) ||| (((xs (i + 6)).toInt64) &&& 4294967295)), .ref o9]) (rest := []) (c_Law_property C N (xs (i + 1)) (xs (i + 2)) (xs (i + 3)) (xs (i + 4)) ((((xs (i + 5)).toInt64) <<< ((32 : Int32).toInt64 &&& 63)) ||| (((xs (i + 6)).toInt64) &&& 4294967295)) hM hR hW ho9 hlo) (hv_cwW C hZ kc_Law_property kn_Law ⟨rfl, rfl, Nat.le_of_ble_eq_true rfl, Nat.le_of_ble_eq_true rfl⟩) hv_blind (hv_pre hZ hS hP) hx hml hb hown (hts _ k_Law_72) (hts _ ki_Law_property) (hts _ kn_Law) hy_Law_property (hv_sigW (hts _ kc_Law_property)) rfl hl.1 rfl (lv_room (Nat.le_of_ble_eq_true rfl)) d_Law_law_401 ⟨by show _ ≤ 601024; omega, by show _ ≤ 7293034; omega⟩) hZ hS (fun v9 w1 H locs q2 hP hS => ?_) (fun x9 w1 H locs q2 hP hS => q2.elim)
  have hgx1 : gX (x_property σ (xs (i + 1)) (xs (i + 2)) (xs (i + 3)) (xs (i + 4)) ((((xs (i + 5)).toInt64) <<< ((32 : Int32).toInt64 &&& 63)) ||| (((xs (i + 6)).toInt64) &&& 4294967295))).1 := gX_property hgx (xs (i + 1)) (xs (i + 2)) (xs (i + 3)) (xs (i + 4)) ((((xs (i + 5)).toInt64) <<< ((32 : Int32).toInt64 &&& 63)) ||| (((xs (i + 6)).toInt64) &&& 4294967295))
  obtain ⟨hv9, hk2, w7, hP9, hcase⟩ := q2
  subst hv9
  have hJ1 := hJ.cls hP9
  rcases hcase with ⟨hk9, hw9⟩ | ⟨hk9, hw9⟩
  · have hJ2 : lJ ca L K o9 (x_property σ (xs (i + 1)) (xs (i + 2)) (xs (i + 3)) (xs (i + 4)) ((((xs (i + 5)).toInt64) <<< ((32 : Int32).toInt64 &&& 63)) ||| (((xs (i + 6)).toInt64) &&& 4294967295))).1 σ f9 w1 := by rw [hw9]; exact hJ1
    show W _ _ _ _ _ _ _ _ _ _ _ _ _ _ _ (F0 m 404 ls [.int (nI ((x_property σ (xs (i + 1)) (xs (i + 2)) (xs (i + 3)) (xs (i + 4)) ((((xs (i + 5)).toInt64) <<< ((32 : Int32).toInt64 &&& 63)) ||| (((xs (i + 6)).toInt64) &&& 4294967295))).2.1))])
    obtain ⟨-, ⟨t8, A8, B8, hM8, hR8, -⟩, -, -⟩ := id hJ2
    have h3 : w1 (K 0) = some (.inr (7, [.int A8.thrown, .ref (K 1), .ref (K 2), .ref (K 3), .ref (K 4), .ref (K 5), .ref (K 6), .ref (K 7), .ref (K 8), .ref (K 9), .ref (K 10), .ref (K 11), .ref (K 12), .int (nI A8.tapeSize), .ref (K 13), .int A8.error, .int A8.off, .int A8.inside, .int (nI A8.changes), .int (nI A8.earlier), .int (nI A8.logged), .int A8.over, .int (nI A8.loose), .int A8.written, .int (nI A8.due)])) := hM8.1.2 0 (by decide)
    refine lv_istore (lv' := [(5, .int (nI ((x_property σ (xs (i + 1)) (xs (i + 2)) (xs (i + 3)) (xs (i + 4)) ((((xs (i + 5)).toInt64) <<< ((32 : Int32).toInt64 &&& 63)) ||| (((xs (i + 6)).toInt64) &&& 4294967295))).2.1))), (0, .ref b), (1, .ref (L 0)), (2, .ref (K 0)), (3, .ref o9), (4, .int (nI i))]) hx hb d_Law_law_404 hl (by decide) rfl (fun ls hl => ?_)
    refine lv_aload_n hx hb d_Law_law_406 rfl (lv_at hl 3 rfl) ?_
    refine lv_aload_n hx hb d_Law_law_407 rfl (lv_at hl 1 rfl) ?_
    refine lv_iload hx hb d_Law_law_408 (lv_at hl 5 rfl) ?_
    refine lv_iconst (v := 1) hx hb d_Law_law_410 (by decide) ?_
    refine gk_iadd (x := i) (y := 1) hx hb d_Law_law_411 ?_
    refine va_sld hx hb hX hbl hbA hS (vp_in_nI (n := i + 1) (by omega) (by omega)) d_Law_law_412 ?_
    rw [nI_clamp (n := i + 1) (by omega)]
    refine lv_aload_n hx hb d_Law_law_413 rfl (lv_at hl 1 rfl) ?_
    refine lv_iload hx hb d_Law_law_414 (lv_at hl 5 rfl) ?_
    refine lv_iconst (v := 2) hx hb d_Law_law_416 (by decide) ?_
    refine gk_iadd (x := i) (y := 2) hx hb d_Law_law_417 ?_
    refine va_sld hx hb hX hbl hbA hS (vp_in_nI (n := i + 2) (by omega) (by omega)) d_Law_law_418 ?_
    rw [nI_clamp (n := i + 2) (by omega)]
    refine lv_aload_n hx hb d_Law_law_419 rfl (lv_at hl 1 rfl) ?_
    refine lv_iload hx hb d_Law_law_420 (lv_at hl 5 rfl) ?_
    refine lv_iconst (v := 3) hx hb d_Law_law_422 (by decide) ?_
    refine gk_iadd (x := i) (y := 3) hx hb d_Law_law_423 ?_
    refine va_sld hx hb hX hbl hbA hS (vp_in_nI (n := i + 3) (by omega) (by omega)) d_Law_law_424 ?_
    rw [nI_clamp (n := i + 3) (by omega)]
    refine lv_aload_n hx hb d_Law_law_425 rfl (lv_at hl 1 rfl) ?_
    refine lv_iload hx hb d_Law_law_426 (lv_at hl 5 rfl) ?_
    refine lv_iconst (v := 4) hx hb d_Law_law_428 (by decide) ?_
    refine gk_iadd (x := i) (y := 4) hx hb d_Law_law_429 ?_
    refine va_sld hx hb hX hbl hbA hS (vp_in_nI (n := i + 4) (by omega) (by omega)) d_Law_law_430 ?_
    rw [nI_clamp (n := i + 4) (by omega)]
    refine lv_aload_n hx hb d_Law_law_431 rfl (lv_at hl 1 rfl) ?_
    refine lv_iload hx hb d_Law_law_432 (lv_at hl 5 rfl) ?_
    refine lv_iconst (v := 5) hx hb d_Law_law_434 (by decide) ?_
    refine gk_iadd (x := i) (y := 5) hx hb d_Law_law_435 ?_
    refine va_sld hx hb hX hbl hbA hS (vp_in_nI (n := i + 5) (by omega) (by omega)) d_Law_law_436 ?_
    rw [nI_clamp (n := i + 5) (by omega)]
    refine lv_i2l (v := (xs (i + 5)).toInt64) hx hb d_Law_law_437 rfl ?_
    refine lv_bipush (v := 32) hx hb d_Law_law_438 (by decide) ?_
    refine lv_lshl (v := ((xs (i + 5)).toInt64) <<< ((32 : Int32).toInt64 &&& 63)) hx hb d_Law_law_440 rfl ?_
    refine lv_aload_n hx hb d_Law_law_441 rfl (lv_at hl 1 rfl) ?_
    refine lv_iload hx hb d_Law_law_442 (lv_at hl 5 rfl) ?_
    refine lv_bipush (v := 6) hx hb d_Law_law_444 (by decide) ?_
    refine gk_iadd (x := i) (y := 6) hx hb d_Law_law_446 ?_
    refine va_sld hx hb hX hbl hbA hS (vp_in_nI (n := i + 6) (by omega) (by omega)) d_Law_law_447 ?_
    rw [nI_clamp (n := i + 6) (by omega)]
    refine lv_i2l (v := (xs (i + 6)).toInt64) hx hb d_Law_law_448 rfl ?_
    refine lv_ldc2 (v := 4294967295) hx hb hown (hts _ k_Law_52) d_Law_law_449 ?_
    refine lv_land hx hb d_Law_law_452 ?_
    refine lv_lor hx hb d_Law_law_453 ?_
    refine hv_call (hv_runV (As := [.int (xs (i + 1)), .int (xs (i + 2)), .int (xs (i + 3)), .int (xs (i + 4)), .long ((((xs (i + 5)).toInt64) <<< ((32 : Int32).toInt64 &&& 63)) ||| (((xs (i + 6)).toInt64) &&& 4294967295))]) (rest := []) (c_Model_property C (xs (i + 1)) (xs (i + 2)) (xs (i + 3)) (xs (i + 4)) ((((xs (i + 5)).toInt64) <<< ((32 : Int32).toInt64 &&& 63)) ||| (((xs (i + 6)).toInt64) &&& 4294967295)) hM8 hR8 hW) (hv_cw C hZ kc_Model_property kn_Model ⟨rfl, rfl, Nat.le_of_ble_eq_true rfl, Nat.le_of_ble_eq_true rfl⟩) hv_blind (hv_pre hZ hS hP) hx hml hb hown (hts _ k_Law_75) (hts _ ki_Model_property) (hts _ ksel_Model_Model_property) hy_Model_property (hts _ kc_Model_property) (va_recv hK (hv_one hP h3) (ci := 7) (q0 := 0) rfl rfl) rfl hl.1 rfl (lv_room (Nat.le_of_ble_eq_true rfl)) d_Law_law_454 ⟨by show _ ≤ 601024; omega, by show _ ≤ 7293034; omega⟩) hZ hS (fun v9 w4 H locs q5 hP hS => ?_) (fun x9 w4 H locs q5 hP hS => q5.elim)
    obtain ⟨x8, hv8, hx8, hS8⟩ := q5
    subst hv8
    have hJ3 := hJ2.mod hgx1.1 hS8
    show W _ _ _ _ _ _ _ _ _ _ _ _ _ _ _ (F0 m 457 ls [.int x8])
    obtain ⟨A7, B7, hM7, hR7, ht7⟩ := id hS8
    have h6 : w4 (K 0) = some (.inr (7, [.int A7.thrown, .ref (K 1), .ref (K 2), .ref (K 3), .ref (K 4), .ref (K 5), .ref (K 6), .ref (K 7), .ref (K 8), .ref (K 9), .ref (K 10), .ref (K 11), .ref (K 12), .int (nI A7.tapeSize), .ref (K 13), .int A7.error, .int A7.off, .int A7.inside, .int (nI A7.changes), .int (nI A7.earlier), .int (nI A7.logged), .int A7.over, .int (nI A7.loose), .int A7.written, .int (nI A7.due)])) := hM7.1.2 0 (by decide)
    refine lv_istore (lv' := [(6, .int x8), (5, .int (nI ((x_property σ (xs (i + 1)) (xs (i + 2)) (xs (i + 3)) (xs (i + 4)) ((((xs (i + 5)).toInt64) <<< ((32 : Int32).toInt64 &&& 63)) ||| (((xs (i + 6)).toInt64) &&& 4294967295))).2.1))), (0, .ref b), (1, .ref (L 0)), (2, .ref (K 0)), (3, .ref o9), (4, .int (nI i))]) hx hb d_Law_law_457 hl (by decide) rfl (fun ls hl => ?_)
    refine lv_aload_n hx hb d_Law_law_459 rfl (lv_at hl 4 rfl) ?_
    refine hv_call (hv_runV (As := []) (rest := []) (c_Model_thrown C hM7) (hv_cw C hZ kc_Model_thrown kn_Model ⟨rfl, rfl, Nat.le_of_ble_eq_true rfl, Nat.le_of_ble_eq_true rfl⟩) hv_blind (hv_pre hZ hS hP) hx hml hb hown (hts _ k_Law_65) (hts _ ki_Model_thrown) (hts _ ksel_Model_Model_thrown) hy_Model_thrown (hts _ kc_Model_thrown) (va_recv hK (hv_one hP h6) (ci := 7) (q0 := 0) rfl rfl) rfl hl.1 rfl (lv_room (Nat.le_of_ble_eq_true rfl)) d_Law_law_460 ⟨by show _ ≤ 601024; omega, by show _ ≤ 7293034; omega⟩) hZ hS (fun v9 w7 H locs q8 hP hS => ?_) (fun x9 w7 H locs q8 hP hS => q8.elim)
    obtain ⟨hv9, hw9⟩ := q8
    subst hv9
    rw [hw9] at hP
    show W _ _ _ _ _ _ _ _ _ _ _ _ _ _ _ (F0 m 463 ls [.int A7.thrown])
    refine lv_topi (fun v9 e9 => ?_)
    have e9 : v9 = nI ((x_property σ (xs (i + 1)) (xs (i + 2)) (xs (i + 3)) (xs (i + 4)) ((((xs (i + 5)).toInt64) <<< ((32 : Int32).toInt64 &&& 63)) ||| (((xs (i + 6)).toInt64) &&& 4294967295))).2.1) := e9.trans (ht7)
    subst e9
    show W _ _ _ _ _ _ _ _ _ _ _ _ _ _ _ (F0 m 463 ls [.int (nI ((x_property σ (xs (i + 1)) (xs (i + 2)) (xs (i + 3)) (xs (i + 4)) ((((xs (i + 5)).toInt64) <<< ((32 : Int32).toInt64 &&& 63)) ||| (((xs (i + 6)).toInt64) &&& 4294967295))).2.1))])
    refine lv_iload hx hb d_Law_law_463 (lv_at hl 1 rfl) ?_
    refine gk_icmp_eq (x := (x_property σ (xs (i + 1)) (xs (i + 2)) (xs (i + 3)) (xs (i + 4)) ((((xs (i + 5)).toInt64) <<< ((32 : Int32).toInt64 &&& 63)) ||| (((xs (i + 6)).toInt64) &&& 4294967295))).2.1) (y := (x_property σ (xs (i + 1)) (xs (i + 2)) (xs (i + 3)) (xs (i + 4)) ((((xs (i + 5)).toInt64) <<< ((32 : Int32).toInt64 &&& 63)) ||| (((xs (i + 6)).toInt64) &&& 4294967295))).2.1) (tgt := 470) hx hb d_Law_law_465 (by decide) (by omega) (by omega) (fun c465 => ?_) (fun c465 => ?_)
    · refine lv_iload hx hb d_Law_law_470 (lv_at hl 1 rfl) ?_
      refine gk_if_ne (x := (x_property σ (xs (i + 1)) (xs (i + 2)) (xs (i + 3)) (xs (i + 4)) ((((xs (i + 5)).toInt64) <<< ((32 : Int32).toInt64 &&& 63)) ||| (((xs (i + 6)).toInt64) &&& 4294967295))).2.1) (tgt := 494) hx hb d_Law_law_472 (by decide) (by omega) (fun c472 => ?_) (fun c472 => ?_)
      · refine lv_goto (tgt := 1114) hx hb d_Law_law_494 (by decide) ?_
        refine W.widen (k := cells + 9) (n := slots + 69) (by omega) (by omega) ?_
        exact kk _ _ _ ⟨hgx1, hJ3⟩ _ _ _ hP hS (lv_sub hl [2, 3, 4, 5, 6] rfl)
      · exact absurd c472 hk9
    · exact absurd rfl c465
  · rcases Classical.em ((x_property σ (xs (i + 1)) (xs (i + 2)) (xs (i + 3)) (xs (i + 4)) ((((xs (i + 5)).toInt64) <<< ((32 : Int32).toInt64 &&& 63)) ||| (((xs (i + 6)).toInt64) &&& 4294967295))).2.2 = 0) with hzv | hzv
    · have hJ2 : lJ ca L K o9 (x_property σ (xs (i + 1)) (xs (i + 2)) (xs (i + 3)) (xs (i + 4)) ((((xs (i + 5)).toInt64) <<< ((32 : Int32).toInt64 &&& 63)) ||| (((xs (i + 6)).toInt64) &&& 4294967295))).1 σ (vp_updL f9 0 ((if (x_property σ (xs (i + 1)) (xs (i + 2)) (xs (i + 3)) (xs (i + 4)) ((((xs (i + 5)).toInt64) <<< ((32 : Int32).toInt64 &&& 63)) ||| (((xs (i + 6)).toInt64) &&& 4294967295))).2.2 = 0 then 0 else 1))) w1 := by rw [hw9]; exact hJ1.out hgx1.1
      show W _ _ _ _ _ _ _ _ _ _ _ _ _ _ _ (F0 m 404 ls [.int (nI ((x_property σ (xs (i + 1)) (xs (i + 2)) (xs (i + 3)) (xs (i + 4)) ((((xs (i + 5)).toInt64) <<< ((32 : Int32).toInt64 &&& 63)) ||| (((xs (i + 6)).toInt64) &&& 4294967295))).2.1))])
      obtain ⟨-, ⟨t8, A8, B8, hM8, hR8, -⟩, -, -⟩ := id hJ2
      have h9 : w1 (K 0) = some (.inr (7, [.int A8.thrown, .ref (K 1), .ref (K 2), .ref (K 3), .ref (K 4), .ref (K 5), .ref (K 6), .ref (K 7), .ref (K 8), .ref (K 9), .ref (K 10), .ref (K 11), .ref (K 12), .int (nI A8.tapeSize), .ref (K 13), .int A8.error, .int A8.off, .int A8.inside, .int (nI A8.changes), .int (nI A8.earlier), .int (nI A8.logged), .int A8.over, .int (nI A8.loose), .int A8.written, .int (nI A8.due)])) := hM8.1.2 0 (by decide)
      refine lv_istore (lv' := [(5, .int (nI ((x_property σ (xs (i + 1)) (xs (i + 2)) (xs (i + 3)) (xs (i + 4)) ((((xs (i + 5)).toInt64) <<< ((32 : Int32).toInt64 &&& 63)) ||| (((xs (i + 6)).toInt64) &&& 4294967295))).2.1))), (0, .ref b), (1, .ref (L 0)), (2, .ref (K 0)), (3, .ref o9), (4, .int (nI i))]) hx hb d_Law_law_404 hl (by decide) rfl (fun ls hl => ?_)
      refine lv_aload_n hx hb d_Law_law_406 rfl (lv_at hl 3 rfl) ?_
      refine lv_aload_n hx hb d_Law_law_407 rfl (lv_at hl 1 rfl) ?_
      refine lv_iload hx hb d_Law_law_408 (lv_at hl 5 rfl) ?_
      refine lv_iconst (v := 1) hx hb d_Law_law_410 (by decide) ?_
      refine gk_iadd (x := i) (y := 1) hx hb d_Law_law_411 ?_
      refine va_sld hx hb hX hbl hbA hS (vp_in_nI (n := i + 1) (by omega) (by omega)) d_Law_law_412 ?_
      rw [nI_clamp (n := i + 1) (by omega)]
      refine lv_aload_n hx hb d_Law_law_413 rfl (lv_at hl 1 rfl) ?_
      refine lv_iload hx hb d_Law_law_414 (lv_at hl 5 rfl) ?_
      refine lv_iconst (v := 2) hx hb d_Law_law_416 (by decide) ?_
      refine gk_iadd (x := i) (y := 2) hx hb d_Law_law_417 ?_
      refine va_sld hx hb hX hbl hbA hS (vp_in_nI (n := i + 2) (by omega) (by omega)) d_Law_law_418 ?_
      rw [nI_clamp (n := i + 2) (by omega)]
      refine lv_aload_n hx hb d_Law_law_419 rfl (lv_at hl 1 rfl) ?_
      refine lv_iload hx hb d_Law_law_420 (lv_at hl 5 rfl) ?_
      refine lv_iconst (v := 3) hx hb d_Law_law_422 (by decide) ?_
      refine gk_iadd (x := i) (y := 3) hx hb d_Law_law_423 ?_
      refine va_sld hx hb hX hbl hbA hS (vp_in_nI (n := i + 3) (by omega) (by omega)) d_Law_law_424 ?_
      rw [nI_clamp (n := i + 3) (by omega)]
      refine lv_aload_n hx hb d_Law_law_425 rfl (lv_at hl 1 rfl) ?_
      refine lv_iload hx hb d_Law_law_426 (lv_at hl 5 rfl) ?_
      refine lv_iconst (v := 4) hx hb d_Law_law_428 (by decide) ?_
      refine gk_iadd (x := i) (y := 4) hx hb d_Law_law_429 ?_
      refine va_sld hx hb hX hbl hbA hS (vp_in_nI (n := i + 4) (by omega) (by omega)) d_Law_law_430 ?_
      rw [nI_clamp (n := i + 4) (by omega)]
      refine lv_aload_n hx hb d_Law_law_431 rfl (lv_at hl 1 rfl) ?_
      refine lv_iload hx hb d_Law_law_432 (lv_at hl 5 rfl) ?_
      refine lv_iconst (v := 5) hx hb d_Law_law_434 (by decide) ?_
      refine gk_iadd (x := i) (y := 5) hx hb d_Law_law_435 ?_
      refine va_sld hx hb hX hbl hbA hS (vp_in_nI (n := i + 5) (by omega) (by omega)) d_Law_law_436 ?_
      rw [nI_clamp (n := i + 5) (by omega)]
      refine lv_i2l (v := (xs (i + 5)).toInt64) hx hb d_Law_law_437 rfl ?_
      refine lv_bipush (v := 32) hx hb d_Law_law_438 (by decide) ?_
      refine lv_lshl (v := ((xs (i + 5)).toInt64) <<< ((32 : Int32).toInt64 &&& 63)) hx hb d_Law_law_440 rfl ?_
      refine lv_aload_n hx hb d_Law_law_441 rfl (lv_at hl 1 rfl) ?_
      refine lv_iload hx hb d_Law_law_442 (lv_at hl 5 rfl) ?_
      refine lv_bipush (v := 6) hx hb d_Law_law_444 (by decide) ?_
      refine gk_iadd (x := i) (y := 6) hx hb d_Law_law_446 ?_
      refine va_sld hx hb hX hbl hbA hS (vp_in_nI (n := i + 6) (by omega) (by omega)) d_Law_law_447 ?_
      rw [nI_clamp (n := i + 6) (by omega)]
      refine lv_i2l (v := (xs (i + 6)).toInt64) hx hb d_Law_law_448 rfl ?_
      refine lv_ldc2 (v := 4294967295) hx hb hown (hts _ k_Law_52) d_Law_law_449 ?_
      refine lv_land hx hb d_Law_law_452 ?_
      refine lv_lor hx hb d_Law_law_453 ?_
      refine hv_call (hv_runV (As := [.int (xs (i + 1)), .int (xs (i + 2)), .int (xs (i + 3)), .int (xs (i + 4)), .long ((((xs (i + 5)).toInt64) <<< ((32 : Int32).toInt64 &&& 63)) ||| (((xs (i + 6)).toInt64) &&& 4294967295))]) (rest := []) (c_Model_property C (xs (i + 1)) (xs (i + 2)) (xs (i + 3)) (xs (i + 4)) ((((xs (i + 5)).toInt64) <<< ((32 : Int32).toInt64 &&& 63)) ||| (((xs (i + 6)).toInt64) &&& 4294967295)) hM8 hR8 hW) (hv_cw C hZ kc_Model_property kn_Model ⟨rfl, rfl, Nat.le_of_ble_eq_true rfl, Nat.le_of_ble_eq_true rfl⟩) hv_blind (hv_pre hZ hS hP) hx hml hb hown (hts _ k_Law_75) (hts _ ki_Model_property) (hts _ ksel_Model_Model_property) hy_Model_property (hts _ kc_Model_property) (va_recv hK (hv_one hP h9) (ci := 7) (q0 := 0) rfl rfl) rfl hl.1 rfl (lv_room (Nat.le_of_ble_eq_true rfl)) d_Law_law_454 ⟨by show _ ≤ 601024; omega, by show _ ≤ 7293034; omega⟩) hZ hS (fun v9 w10 H locs q11 hP hS => ?_) (fun x9 w10 H locs q11 hP hS => q11.elim)
      obtain ⟨x8, hv8, hx8, hS8⟩ := q11
      subst hv8
      have hx8 := hx8 hk9
      subst hx8
      have hJ3 := hJ2.mod hgx1.1 hS8
      show W _ _ _ _ _ _ _ _ _ _ _ _ _ _ _ (F0 m 457 ls [.int ((x_property σ (xs (i + 1)) (xs (i + 2)) (xs (i + 3)) (xs (i + 4)) ((((xs (i + 5)).toInt64) <<< ((32 : Int32).toInt64 &&& 63)) ||| (((xs (i + 6)).toInt64) &&& 4294967295))).2.2)])
      obtain ⟨A7, B7, hM7, hR7, ht7⟩ := id hS8
      have h12 : w10 (K 0) = some (.inr (7, [.int A7.thrown, .ref (K 1), .ref (K 2), .ref (K 3), .ref (K 4), .ref (K 5), .ref (K 6), .ref (K 7), .ref (K 8), .ref (K 9), .ref (K 10), .ref (K 11), .ref (K 12), .int (nI A7.tapeSize), .ref (K 13), .int A7.error, .int A7.off, .int A7.inside, .int (nI A7.changes), .int (nI A7.earlier), .int (nI A7.logged), .int A7.over, .int (nI A7.loose), .int A7.written, .int (nI A7.due)])) := hM7.1.2 0 (by decide)
      have h13 : w10 o9 = some (.inl (ca 3, 1, .inr (.inl (vp_updL f9 0 ((if (x_property σ (xs (i + 1)) (xs (i + 2)) (xs (i + 3)) (xs (i + 4)) ((((xs (i + 5)).toInt64) <<< ((32 : Int32).toInt64 &&& 63)) ||| (((xs (i + 6)).toInt64) &&& 4294967295))).2.2 = 0 then 0 else 1)))))) := hJ3.2.2.1
      refine lv_istore (lv' := [(6, .int ((x_property σ (xs (i + 1)) (xs (i + 2)) (xs (i + 3)) (xs (i + 4)) ((((xs (i + 5)).toInt64) <<< ((32 : Int32).toInt64 &&& 63)) ||| (((xs (i + 6)).toInt64) &&& 4294967295))).2.2)), (5, .int (nI ((x_property σ (xs (i + 1)) (xs (i + 2)) (xs (i + 3)) (xs (i + 4)) ((((xs (i + 5)).toInt64) <<< ((32 : Int32).toInt64 &&& 63)) ||| (((xs (i + 6)).toInt64) &&& 4294967295))).2.1))), (0, .ref b), (1, .ref (L 0)), (2, .ref (K 0)), (3, .ref o9), (4, .int (nI i))]) hx hb d_Law_law_457 hl (by decide) rfl (fun ls hl => ?_)
      refine lv_aload_n hx hb d_Law_law_459 rfl (lv_at hl 4 rfl) ?_
      refine hv_call (hv_runV (As := []) (rest := []) (c_Model_thrown C hM7) (hv_cw C hZ kc_Model_thrown kn_Model ⟨rfl, rfl, Nat.le_of_ble_eq_true rfl, Nat.le_of_ble_eq_true rfl⟩) hv_blind (hv_pre hZ hS hP) hx hml hb hown (hts _ k_Law_65) (hts _ ki_Model_thrown) (hts _ ksel_Model_Model_thrown) hy_Model_thrown (hts _ kc_Model_thrown) (va_recv hK (hv_one hP h12) (ci := 7) (q0 := 0) rfl rfl) rfl hl.1 rfl (lv_room (Nat.le_of_ble_eq_true rfl)) d_Law_law_460 ⟨by show _ ≤ 601024; omega, by show _ ≤ 7293034; omega⟩) hZ hS (fun v9 w14 H locs q15 hP hS => ?_) (fun x9 w14 H locs q15 hP hS => q15.elim)
      obtain ⟨hv9, hw9⟩ := q15
      subst hv9
      rw [hw9] at hP
      show W _ _ _ _ _ _ _ _ _ _ _ _ _ _ _ (F0 m 463 ls [.int A7.thrown])
      refine lv_topi (fun v9 e9 => ?_)
      have e9 : v9 = nI ((x_property σ (xs (i + 1)) (xs (i + 2)) (xs (i + 3)) (xs (i + 4)) ((((xs (i + 5)).toInt64) <<< ((32 : Int32).toInt64 &&& 63)) ||| (((xs (i + 6)).toInt64) &&& 4294967295))).2.1) := e9.trans (ht7)
      subst e9
      show W _ _ _ _ _ _ _ _ _ _ _ _ _ _ _ (F0 m 463 ls [.int (nI ((x_property σ (xs (i + 1)) (xs (i + 2)) (xs (i + 3)) (xs (i + 4)) ((((xs (i + 5)).toInt64) <<< ((32 : Int32).toInt64 &&& 63)) ||| (((xs (i + 6)).toInt64) &&& 4294967295))).2.1))])
      refine lv_iload hx hb d_Law_law_463 (lv_at hl 1 rfl) ?_
      refine gk_icmp_eq (x := (x_property σ (xs (i + 1)) (xs (i + 2)) (xs (i + 3)) (xs (i + 4)) ((((xs (i + 5)).toInt64) <<< ((32 : Int32).toInt64 &&& 63)) ||| (((xs (i + 6)).toInt64) &&& 4294967295))).2.1) (y := (x_property σ (xs (i + 1)) (xs (i + 2)) (xs (i + 3)) (xs (i + 4)) ((((xs (i + 5)).toInt64) <<< ((32 : Int32).toInt64 &&& 63)) ||| (((xs (i + 6)).toInt64) &&& 4294967295))).2.1) (tgt := 470) hx hb d_Law_law_465 (by decide) (by omega) (by omega) (fun c465 => ?_) (fun c465 => ?_)
      · refine lv_iload hx hb d_Law_law_470 (lv_at hl 1 rfl) ?_
        refine gk_if_ne (x := (x_property σ (xs (i + 1)) (xs (i + 2)) (xs (i + 3)) (xs (i + 4)) ((((xs (i + 5)).toInt64) <<< ((32 : Int32).toInt64 &&& 63)) ||| (((xs (i + 6)).toInt64) &&& 4294967295))).2.1) (tgt := 494) hx hb d_Law_law_472 (by decide) (by omega) (fun c472 => ?_) (fun c472 => ?_)
        · exact absurd hk9 c472
        · refine lv_aload_n hx hb d_Law_law_475 rfl (lv_at hl 5 rfl) ?_
          refine lv_iconst (v := 0) hx hb d_Law_law_476 (by decide) ?_
          refine va_lald hx hb hK (hv_one hP h13) 0 3 rfl rfl (vp_in_nI (n := 0) (by omega) (by omega)) d_Law_law_477 ?_
          rw [show Int32.toNatClampNeg 0 = 0 by decide]
          refine lv_topl (fun v9 e9 => ?_)
          have e9 : v9 = 0 := e9.trans (m_uLs.trans (if_pos hzv))
          subst e9
          show W _ _ _ _ _ _ _ _ _ _ _ _ _ _ _ (F0 m 478 ls [.long 0])
          refine lv_iload hx hb d_Law_law_478 (lv_at hl 0 rfl) ?_
          refine lv_if_eq (tgt := 487) hx hb d_Law_law_480 (by decide) (fun c480 => ?_) (fun c480 => ?_)
          · refine lv_lconst (v := 0) hx hb d_Law_law_487 (by decide) ?_
            refine W.lcmp hx hb d_Law_law_488 ?_
            refine lv_if_eq (tgt := 494) hx hb d_Law_law_489 (by decide) (fun c489 => ?_) (fun c489 => ?_)
            · refine lv_goto (tgt := 1114) hx hb d_Law_law_494 (by decide) ?_
              refine W.widen (k := cells + 9) (n := slots + 69) (by omega) (by omega) ?_
              exact kk _ _ _ ⟨hgx1, hJ3⟩ _ _ _ hP hS (lv_sub hl [2, 3, 4, 5, 6] rfl)
            · exact absurd (g_lcmp_refl _) c489
          · exact absurd hzv c480
      · exact absurd rfl c465
    · have hJ2 : lJ ca L K o9 (x_property σ (xs (i + 1)) (xs (i + 2)) (xs (i + 3)) (xs (i + 4)) ((((xs (i + 5)).toInt64) <<< ((32 : Int32).toInt64 &&& 63)) ||| (((xs (i + 6)).toInt64) &&& 4294967295))).1 σ (vp_updL f9 0 ((if (x_property σ (xs (i + 1)) (xs (i + 2)) (xs (i + 3)) (xs (i + 4)) ((((xs (i + 5)).toInt64) <<< ((32 : Int32).toInt64 &&& 63)) ||| (((xs (i + 6)).toInt64) &&& 4294967295))).2.2 = 0 then 0 else 1))) w1 := by rw [hw9]; exact hJ1.out hgx1.1
      show W _ _ _ _ _ _ _ _ _ _ _ _ _ _ _ (F0 m 404 ls [.int (nI ((x_property σ (xs (i + 1)) (xs (i + 2)) (xs (i + 3)) (xs (i + 4)) ((((xs (i + 5)).toInt64) <<< ((32 : Int32).toInt64 &&& 63)) ||| (((xs (i + 6)).toInt64) &&& 4294967295))).2.1))])
      obtain ⟨-, ⟨t8, A8, B8, hM8, hR8, -⟩, -, -⟩ := id hJ2
      have h16 : w1 (K 0) = some (.inr (7, [.int A8.thrown, .ref (K 1), .ref (K 2), .ref (K 3), .ref (K 4), .ref (K 5), .ref (K 6), .ref (K 7), .ref (K 8), .ref (K 9), .ref (K 10), .ref (K 11), .ref (K 12), .int (nI A8.tapeSize), .ref (K 13), .int A8.error, .int A8.off, .int A8.inside, .int (nI A8.changes), .int (nI A8.earlier), .int (nI A8.logged), .int A8.over, .int (nI A8.loose), .int A8.written, .int (nI A8.due)])) := hM8.1.2 0 (by decide)
      refine lv_istore (lv' := [(5, .int (nI ((x_property σ (xs (i + 1)) (xs (i + 2)) (xs (i + 3)) (xs (i + 4)) ((((xs (i + 5)).toInt64) <<< ((32 : Int32).toInt64 &&& 63)) ||| (((xs (i + 6)).toInt64) &&& 4294967295))).2.1))), (0, .ref b), (1, .ref (L 0)), (2, .ref (K 0)), (3, .ref o9), (4, .int (nI i))]) hx hb d_Law_law_404 hl (by decide) rfl (fun ls hl => ?_)
      refine lv_aload_n hx hb d_Law_law_406 rfl (lv_at hl 3 rfl) ?_
      refine lv_aload_n hx hb d_Law_law_407 rfl (lv_at hl 1 rfl) ?_
      refine lv_iload hx hb d_Law_law_408 (lv_at hl 5 rfl) ?_
      refine lv_iconst (v := 1) hx hb d_Law_law_410 (by decide) ?_
      refine gk_iadd (x := i) (y := 1) hx hb d_Law_law_411 ?_
      refine va_sld hx hb hX hbl hbA hS (vp_in_nI (n := i + 1) (by omega) (by omega)) d_Law_law_412 ?_
      rw [nI_clamp (n := i + 1) (by omega)]
      refine lv_aload_n hx hb d_Law_law_413 rfl (lv_at hl 1 rfl) ?_
      refine lv_iload hx hb d_Law_law_414 (lv_at hl 5 rfl) ?_
      refine lv_iconst (v := 2) hx hb d_Law_law_416 (by decide) ?_
      refine gk_iadd (x := i) (y := 2) hx hb d_Law_law_417 ?_
      refine va_sld hx hb hX hbl hbA hS (vp_in_nI (n := i + 2) (by omega) (by omega)) d_Law_law_418 ?_
      rw [nI_clamp (n := i + 2) (by omega)]
      refine lv_aload_n hx hb d_Law_law_419 rfl (lv_at hl 1 rfl) ?_
      refine lv_iload hx hb d_Law_law_420 (lv_at hl 5 rfl) ?_
      refine lv_iconst (v := 3) hx hb d_Law_law_422 (by decide) ?_
      refine gk_iadd (x := i) (y := 3) hx hb d_Law_law_423 ?_
      refine va_sld hx hb hX hbl hbA hS (vp_in_nI (n := i + 3) (by omega) (by omega)) d_Law_law_424 ?_
      rw [nI_clamp (n := i + 3) (by omega)]
      refine lv_aload_n hx hb d_Law_law_425 rfl (lv_at hl 1 rfl) ?_
      refine lv_iload hx hb d_Law_law_426 (lv_at hl 5 rfl) ?_
      refine lv_iconst (v := 4) hx hb d_Law_law_428 (by decide) ?_
      refine gk_iadd (x := i) (y := 4) hx hb d_Law_law_429 ?_
      refine va_sld hx hb hX hbl hbA hS (vp_in_nI (n := i + 4) (by omega) (by omega)) d_Law_law_430 ?_
      rw [nI_clamp (n := i + 4) (by omega)]
      refine lv_aload_n hx hb d_Law_law_431 rfl (lv_at hl 1 rfl) ?_
      refine lv_iload hx hb d_Law_law_432 (lv_at hl 5 rfl) ?_
      refine lv_iconst (v := 5) hx hb d_Law_law_434 (by decide) ?_
      refine gk_iadd (x := i) (y := 5) hx hb d_Law_law_435 ?_
      refine va_sld hx hb hX hbl hbA hS (vp_in_nI (n := i + 5) (by omega) (by omega)) d_Law_law_436 ?_
      rw [nI_clamp (n := i + 5) (by omega)]
      refine lv_i2l (v := (xs (i + 5)).toInt64) hx hb d_Law_law_437 rfl ?_
      refine lv_bipush (v := 32) hx hb d_Law_law_438 (by decide) ?_
      refine lv_lshl (v := ((xs (i + 5)).toInt64) <<< ((32 : Int32).toInt64 &&& 63)) hx hb d_Law_law_440 rfl ?_
      refine lv_aload_n hx hb d_Law_law_441 rfl (lv_at hl 1 rfl) ?_
      refine lv_iload hx hb d_Law_law_442 (lv_at hl 5 rfl) ?_
      refine lv_bipush (v := 6) hx hb d_Law_law_444 (by decide) ?_
      refine gk_iadd (x := i) (y := 6) hx hb d_Law_law_446 ?_
      refine va_sld hx hb hX hbl hbA hS (vp_in_nI (n := i + 6) (by omega) (by omega)) d_Law_law_447 ?_
      rw [nI_clamp (n := i + 6) (by omega)]
      refine lv_i2l (v := (xs (i + 6)).toInt64) hx hb d_Law_law_448 rfl ?_
      refine lv_ldc2 (v := 4294967295) hx hb hown (hts _ k_Law_52) d_Law_law_449 ?_
      refine lv_land hx hb d_Law_law_452 ?_
      refine lv_lor hx hb d_Law_law_453 ?_
      refine hv_call (hv_runV (As := [.int (xs (i + 1)), .int (xs (i + 2)), .int (xs (i + 3)), .int (xs (i + 4)), .long ((((xs (i + 5)).toInt64) <<< ((32 : Int32).toInt64 &&& 63)) ||| (((xs (i + 6)).toInt64) &&& 4294967295))]) (rest := []) (c_Model_property C (xs (i + 1)) (xs (i + 2)) (xs (i + 3)) (xs (i + 4)) ((((xs (i + 5)).toInt64) <<< ((32 : Int32).toInt64 &&& 63)) ||| (((xs (i + 6)).toInt64) &&& 4294967295)) hM8 hR8 hW) (hv_cw C hZ kc_Model_property kn_Model ⟨rfl, rfl, Nat.le_of_ble_eq_true rfl, Nat.le_of_ble_eq_true rfl⟩) hv_blind (hv_pre hZ hS hP) hx hml hb hown (hts _ k_Law_75) (hts _ ki_Model_property) (hts _ ksel_Model_Model_property) hy_Model_property (hts _ kc_Model_property) (va_recv hK (hv_one hP h16) (ci := 7) (q0 := 0) rfl rfl) rfl hl.1 rfl (lv_room (Nat.le_of_ble_eq_true rfl)) d_Law_law_454 ⟨by show _ ≤ 601024; omega, by show _ ≤ 7293034; omega⟩) hZ hS (fun v9 w17 H locs q18 hP hS => ?_) (fun x9 w17 H locs q18 hP hS => q18.elim)
      obtain ⟨x8, hv8, hx8, hS8⟩ := q18
      subst hv8
      have hx8 := hx8 hk9
      subst hx8
      have hJ3 := hJ2.mod hgx1.1 hS8
      show W _ _ _ _ _ _ _ _ _ _ _ _ _ _ _ (F0 m 457 ls [.int ((x_property σ (xs (i + 1)) (xs (i + 2)) (xs (i + 3)) (xs (i + 4)) ((((xs (i + 5)).toInt64) <<< ((32 : Int32).toInt64 &&& 63)) ||| (((xs (i + 6)).toInt64) &&& 4294967295))).2.2)])
      obtain ⟨A7, B7, hM7, hR7, ht7⟩ := id hS8
      have h19 : w17 (K 0) = some (.inr (7, [.int A7.thrown, .ref (K 1), .ref (K 2), .ref (K 3), .ref (K 4), .ref (K 5), .ref (K 6), .ref (K 7), .ref (K 8), .ref (K 9), .ref (K 10), .ref (K 11), .ref (K 12), .int (nI A7.tapeSize), .ref (K 13), .int A7.error, .int A7.off, .int A7.inside, .int (nI A7.changes), .int (nI A7.earlier), .int (nI A7.logged), .int A7.over, .int (nI A7.loose), .int A7.written, .int (nI A7.due)])) := hM7.1.2 0 (by decide)
      have h20 : w17 o9 = some (.inl (ca 3, 1, .inr (.inl (vp_updL f9 0 ((if (x_property σ (xs (i + 1)) (xs (i + 2)) (xs (i + 3)) (xs (i + 4)) ((((xs (i + 5)).toInt64) <<< ((32 : Int32).toInt64 &&& 63)) ||| (((xs (i + 6)).toInt64) &&& 4294967295))).2.2 = 0 then 0 else 1)))))) := hJ3.2.2.1
      refine lv_istore (lv' := [(6, .int ((x_property σ (xs (i + 1)) (xs (i + 2)) (xs (i + 3)) (xs (i + 4)) ((((xs (i + 5)).toInt64) <<< ((32 : Int32).toInt64 &&& 63)) ||| (((xs (i + 6)).toInt64) &&& 4294967295))).2.2)), (5, .int (nI ((x_property σ (xs (i + 1)) (xs (i + 2)) (xs (i + 3)) (xs (i + 4)) ((((xs (i + 5)).toInt64) <<< ((32 : Int32).toInt64 &&& 63)) ||| (((xs (i + 6)).toInt64) &&& 4294967295))).2.1))), (0, .ref b), (1, .ref (L 0)), (2, .ref (K 0)), (3, .ref o9), (4, .int (nI i))]) hx hb d_Law_law_457 hl (by decide) rfl (fun ls hl => ?_)
      refine lv_aload_n hx hb d_Law_law_459 rfl (lv_at hl 4 rfl) ?_
      refine hv_call (hv_runV (As := []) (rest := []) (c_Model_thrown C hM7) (hv_cw C hZ kc_Model_thrown kn_Model ⟨rfl, rfl, Nat.le_of_ble_eq_true rfl, Nat.le_of_ble_eq_true rfl⟩) hv_blind (hv_pre hZ hS hP) hx hml hb hown (hts _ k_Law_65) (hts _ ki_Model_thrown) (hts _ ksel_Model_Model_thrown) hy_Model_thrown (hts _ kc_Model_thrown) (va_recv hK (hv_one hP h19) (ci := 7) (q0 := 0) rfl rfl) rfl hl.1 rfl (lv_room (Nat.le_of_ble_eq_true rfl)) d_Law_law_460 ⟨by show _ ≤ 601024; omega, by show _ ≤ 7293034; omega⟩) hZ hS (fun v9 w21 H locs q22 hP hS => ?_) (fun x9 w21 H locs q22 hP hS => q22.elim)
      obtain ⟨hv9, hw9⟩ := q22
      subst hv9
      rw [hw9] at hP
      show W _ _ _ _ _ _ _ _ _ _ _ _ _ _ _ (F0 m 463 ls [.int A7.thrown])
      refine lv_topi (fun v9 e9 => ?_)
      have e9 : v9 = nI ((x_property σ (xs (i + 1)) (xs (i + 2)) (xs (i + 3)) (xs (i + 4)) ((((xs (i + 5)).toInt64) <<< ((32 : Int32).toInt64 &&& 63)) ||| (((xs (i + 6)).toInt64) &&& 4294967295))).2.1) := e9.trans (ht7)
      subst e9
      show W _ _ _ _ _ _ _ _ _ _ _ _ _ _ _ (F0 m 463 ls [.int (nI ((x_property σ (xs (i + 1)) (xs (i + 2)) (xs (i + 3)) (xs (i + 4)) ((((xs (i + 5)).toInt64) <<< ((32 : Int32).toInt64 &&& 63)) ||| (((xs (i + 6)).toInt64) &&& 4294967295))).2.1))])
      refine lv_iload hx hb d_Law_law_463 (lv_at hl 1 rfl) ?_
      refine gk_icmp_eq (x := (x_property σ (xs (i + 1)) (xs (i + 2)) (xs (i + 3)) (xs (i + 4)) ((((xs (i + 5)).toInt64) <<< ((32 : Int32).toInt64 &&& 63)) ||| (((xs (i + 6)).toInt64) &&& 4294967295))).2.1) (y := (x_property σ (xs (i + 1)) (xs (i + 2)) (xs (i + 3)) (xs (i + 4)) ((((xs (i + 5)).toInt64) <<< ((32 : Int32).toInt64 &&& 63)) ||| (((xs (i + 6)).toInt64) &&& 4294967295))).2.1) (tgt := 470) hx hb d_Law_law_465 (by decide) (by omega) (by omega) (fun c465 => ?_) (fun c465 => ?_)
      · refine lv_iload hx hb d_Law_law_470 (lv_at hl 1 rfl) ?_
        refine gk_if_ne (x := (x_property σ (xs (i + 1)) (xs (i + 2)) (xs (i + 3)) (xs (i + 4)) ((((xs (i + 5)).toInt64) <<< ((32 : Int32).toInt64 &&& 63)) ||| (((xs (i + 6)).toInt64) &&& 4294967295))).2.1) (tgt := 494) hx hb d_Law_law_472 (by decide) (by omega) (fun c472 => ?_) (fun c472 => ?_)
        · exact absurd hk9 c472
        · refine lv_aload_n hx hb d_Law_law_475 rfl (lv_at hl 5 rfl) ?_
          refine lv_iconst (v := 0) hx hb d_Law_law_476 (by decide) ?_
          refine va_lald hx hb hK (hv_one hP h20) 0 3 rfl rfl (vp_in_nI (n := 0) (by omega) (by omega)) d_Law_law_477 ?_
          rw [show Int32.toNatClampNeg 0 = 0 by decide]
          refine lv_topl (fun v9 e9 => ?_)
          have e9 : v9 = 1 := e9.trans (m_uLs.trans (if_neg hzv))
          subst e9
          show W _ _ _ _ _ _ _ _ _ _ _ _ _ _ _ (F0 m 478 ls [.long 1])
          refine lv_iload hx hb d_Law_law_478 (lv_at hl 0 rfl) ?_
          refine lv_if_eq (tgt := 487) hx hb d_Law_law_480 (by decide) (fun c480 => ?_) (fun c480 => ?_)
          · exact absurd c480 hzv
          · refine lv_lconst (v := 1) hx hb d_Law_law_483 (by decide) ?_
            refine lv_goto (tgt := 488) hx hb d_Law_law_484 (by decide) ?_
            refine W.lcmp hx hb d_Law_law_488 ?_
            refine lv_if_eq (tgt := 494) hx hb d_Law_law_489 (by decide) (fun c489 => ?_) (fun c489 => ?_)
            · refine lv_goto (tgt := 1114) hx hb d_Law_law_494 (by decide) ?_
              refine W.widen (k := cells + 9) (n := slots + 69) (by omega) (by omega) ?_
              exact kk _ _ _ ⟨hgx1, hJ3⟩ _ _ _ hP hS (lv_sub hl [2, 3, 4, 5, 6] rfl)
            · exact absurd (g_lcmp_refl _) c489
      · exact absurd rfl c465

set_option maxHeartbeats 4000000 in
set_option maxRecDepth 100000 in
theorem lc_link {p : Program} {l : Launch} {e : Env} {s : State} {m : MethodId} {below : List Frame} {meth : Method} {c : Code} {D : va_G} {ca : Nat → ClassId} {b n0 : Nat} {xs : Nat → Int32} {Q : State → Prop} (F : lF l s D ca p m c b n0 xs) {L K : Nat → Nat} {o9 i cells slots : Nat} (hi : i + 7 ≤ n0) (hcl : cells + 9 ≤ 601024) (hsl : slots + 69 ≤ 7293034) (kk : lKK p l e s m below meth c D ca L K o9 b i cells slots Q)
    {w : hv_W} {σ : gS} {f9 : Nat → Int64} (I : lI ca L K o9 σ f9 w) {H : Heap} {locs : List Loc} {ls : Array Slot} (hP : hv_P D classes s.heap.size w H) (hS : va_S (hv_A s.heap.size) s.heap H locs) (hl : lv_has ls 8 (lLoc b L K o9 i)) : W p l e room_1 s m #[Value.ref b] below meth c H locs cells slots Q (F0 m 497 ls []) := by
  obtain ⟨C, N, hx, hb, hml, hown, hts, hX, hbl, hn0⟩ := F
  have hK : va_K D classes (hv_tys ca) s := C.1
  have hZ : hv_Z s s := hv_Z.refl s
  have hbA : ¬ hv_A s.heap.size b := Nat.not_le.mpr hbl
  have hl : lv_has ls 8 [(0, .ref b), (1, .ref (L 0)), (2, .ref (K 0)), (3, .ref o9), (4, .int (nI i))] := hl
  obtain ⟨hgx, hJ⟩ := I
  have hW : gW σ := hgx.1
  obtain ⟨⟨P, hM, hR⟩, -, ho9, hap⟩ := id hJ
  have hlo : ¬ cM L o9 := hap.2.2.1
  have h0 : w (L 0) = some (.inr (0, [.ref (L 1), .ref (L 2), .ref (L 3), .ref (L 4), .ref (L 5), .ref (L 6), .ref (L 7), .int (σ.err), .int (nI σ.sc), .int (nI σ.ec), .int (σ.ins), .int (σ.off)])) := hM.1.2 0 (by decide)
  refine lv_aload_n hx hb d_Law_law_497 rfl (lv_at hl 1 rfl) ?_
  refine lv_aload_n hx hb d_Law_law_498 rfl (lv_at hl 0 rfl) ?_
  refine lv_iload hx hb d_Law_law_499 (lv_at hl 4 rfl) ?_
  refine lv_iconst (v := 1) hx hb d_Law_law_501 (by decide) ?_
  refine gk_iadd (x := i) (y := 1) hx hb d_Law_law_502 ?_
  refine va_sld hx hb hX hbl hbA hS (vp_in_nI (n := i + 1) (by omega) (by omega)) d_Law_law_503 ?_
  rw [nI_clamp (n := i + 1) (by omega)]
  refine lv_aload_n hx hb d_Law_law_504 rfl (lv_at hl 0 rfl) ?_
  refine lv_iload hx hb d_Law_law_505 (lv_at hl 4 rfl) ?_
  refine lv_iconst (v := 2) hx hb d_Law_law_507 (by decide) ?_
  refine gk_iadd (x := i) (y := 2) hx hb d_Law_law_508 ?_
  refine va_sld hx hb hX hbl hbA hS (vp_in_nI (n := i + 2) (by omega) (by omega)) d_Law_law_509 ?_
  rw [nI_clamp (n := i + 2) (by omega)]
  refine lv_aload_n hx hb d_Law_law_510 rfl (lv_at hl 0 rfl) ?_
  refine lv_iload hx hb d_Law_law_511 (lv_at hl 4 rfl) ?_
  refine lv_iconst (v := 3) hx hb d_Law_law_513 (by decide) ?_
  refine gk_iadd (x := i) (y := 3) hx hb d_Law_law_514 ?_
  refine va_sld hx hb hX hbl hbA hS (vp_in_nI (n := i + 3) (by omega) (by omega)) d_Law_law_515 ?_
  rw [nI_clamp (n := i + 3) (by omega)]
  refine lv_aload_n hx hb d_Law_law_516 rfl (lv_at hl 3 rfl) ?_
  refine hv_call (hv_runS (As := [.ref (L 0), .int (xs (i + 1)), .int (xs (i + 2)), .int (xs (i + 3)), .ref o9]) (rest := []) (c_Law_link C N (xs (i + 1)) (xs (i + 2)) (xs (i + 3)) hM hR hW ho9 hlo) (hv_cwW C hZ kc_Law_link kn_Law ⟨rfl, rfl, Nat.le_of_ble_eq_true rfl, Nat.le_of_ble_eq_true rfl⟩) hv_blind (hv_pre hZ hS hP) hx hml hb hown (hts _ k_Law_76) (hts _ ki_Law_link) (hts _ kn_Law) hy_Law_link (hv_sigW (hts _ kc_Law_link)) rfl hl.1 rfl (lv_room (Nat.le_of_ble_eq_true rfl)) d_Law_law_517 ⟨by show _ ≤ 601024; omega, by show _ ≤ 7293034; omega⟩) hZ hS (fun v9 w1 H locs q2 hP hS => ?_) (fun x9 w1 H locs q2 hP hS => q2.elim)
  have hgx1 : gX (x_link σ (xs (i + 1)) (xs (i + 2)) (xs (i + 3))).1 := gX_link hgx (xs (i + 1)) (xs (i + 2)) (xs (i + 3))
  obtain ⟨hv9, hk2, w7, hP9, hcase⟩ := q2
  subst hv9
  have hJ1 := hJ.cls hP9
  rcases hcase with ⟨hk9, hw9⟩ | ⟨hk9, hw9⟩
  · have hJ2 : lJ ca L K o9 (x_link σ (xs (i + 1)) (xs (i + 2)) (xs (i + 3))).1 σ f9 w1 := by rw [hw9]; exact hJ1
    show W _ _ _ _ _ _ _ _ _ _ _ _ _ _ _ (F0 m 520 ls [.int (nI ((x_link σ (xs (i + 1)) (xs (i + 2)) (xs (i + 3))).2.1))])
    obtain ⟨-, ⟨t8, A8, B8, hM8, hR8, -⟩, -, -⟩ := id hJ2
    have h3 : w1 (K 0) = some (.inr (7, [.int A8.thrown, .ref (K 1), .ref (K 2), .ref (K 3), .ref (K 4), .ref (K 5), .ref (K 6), .ref (K 7), .ref (K 8), .ref (K 9), .ref (K 10), .ref (K 11), .ref (K 12), .int (nI A8.tapeSize), .ref (K 13), .int A8.error, .int A8.off, .int A8.inside, .int (nI A8.changes), .int (nI A8.earlier), .int (nI A8.logged), .int A8.over, .int (nI A8.loose), .int A8.written, .int (nI A8.due)])) := hM8.1.2 0 (by decide)
    refine lv_istore (lv' := [(5, .int (nI ((x_link σ (xs (i + 1)) (xs (i + 2)) (xs (i + 3))).2.1))), (0, .ref b), (1, .ref (L 0)), (2, .ref (K 0)), (3, .ref o9), (4, .int (nI i))]) hx hb d_Law_law_520 hl (by decide) rfl (fun ls hl => ?_)
    refine lv_aload_n hx hb d_Law_law_522 rfl (lv_at hl 3 rfl) ?_
    refine lv_aload_n hx hb d_Law_law_523 rfl (lv_at hl 1 rfl) ?_
    refine lv_iload hx hb d_Law_law_524 (lv_at hl 5 rfl) ?_
    refine lv_iconst (v := 1) hx hb d_Law_law_526 (by decide) ?_
    refine gk_iadd (x := i) (y := 1) hx hb d_Law_law_527 ?_
    refine va_sld hx hb hX hbl hbA hS (vp_in_nI (n := i + 1) (by omega) (by omega)) d_Law_law_528 ?_
    rw [nI_clamp (n := i + 1) (by omega)]
    refine lv_aload_n hx hb d_Law_law_529 rfl (lv_at hl 1 rfl) ?_
    refine lv_iload hx hb d_Law_law_530 (lv_at hl 5 rfl) ?_
    refine lv_iconst (v := 2) hx hb d_Law_law_532 (by decide) ?_
    refine gk_iadd (x := i) (y := 2) hx hb d_Law_law_533 ?_
    refine va_sld hx hb hX hbl hbA hS (vp_in_nI (n := i + 2) (by omega) (by omega)) d_Law_law_534 ?_
    rw [nI_clamp (n := i + 2) (by omega)]
    refine lv_aload_n hx hb d_Law_law_535 rfl (lv_at hl 1 rfl) ?_
    refine lv_iload hx hb d_Law_law_536 (lv_at hl 5 rfl) ?_
    refine lv_iconst (v := 3) hx hb d_Law_law_538 (by decide) ?_
    refine gk_iadd (x := i) (y := 3) hx hb d_Law_law_539 ?_
    refine va_sld hx hb hX hbl hbA hS (vp_in_nI (n := i + 3) (by omega) (by omega)) d_Law_law_540 ?_
    rw [nI_clamp (n := i + 3) (by omega)]
    refine hv_call (hv_runV (As := [.int (xs (i + 1)), .int (xs (i + 2)), .int (xs (i + 3))]) (rest := []) (c_Model_link C (xs (i + 1)) (xs (i + 2)) (xs (i + 3)) hM8 hR8 hW) (hv_cw C hZ kc_Model_link kn_Model ⟨rfl, rfl, Nat.le_of_ble_eq_true rfl, Nat.le_of_ble_eq_true rfl⟩) hv_blind (hv_pre hZ hS hP) hx hml hb hown (hts _ k_Law_79) (hts _ ki_Model_link) (hts _ ksel_Model_Model_link) hy_Model_link (hts _ kc_Model_link) (va_recv hK (hv_one hP h3) (ci := 7) (q0 := 0) rfl rfl) rfl hl.1 rfl (lv_room (Nat.le_of_ble_eq_true rfl)) d_Law_law_541 ⟨by show _ ≤ 601024; omega, by show _ ≤ 7293034; omega⟩) hZ hS (fun v9 w4 H locs q5 hP hS => ?_) (fun x9 w4 H locs q5 hP hS => q5.elim)
    obtain ⟨x8, hv8, hx8, hS8⟩ := q5
    subst hv8
    have hJ3 := hJ2.mod hgx1.1 hS8
    show W _ _ _ _ _ _ _ _ _ _ _ _ _ _ _ (F0 m 544 ls [.int x8])
    obtain ⟨A7, B7, hM7, hR7, ht7⟩ := id hS8
    have h6 : w4 (K 0) = some (.inr (7, [.int A7.thrown, .ref (K 1), .ref (K 2), .ref (K 3), .ref (K 4), .ref (K 5), .ref (K 6), .ref (K 7), .ref (K 8), .ref (K 9), .ref (K 10), .ref (K 11), .ref (K 12), .int (nI A7.tapeSize), .ref (K 13), .int A7.error, .int A7.off, .int A7.inside, .int (nI A7.changes), .int (nI A7.earlier), .int (nI A7.logged), .int A7.over, .int (nI A7.loose), .int A7.written, .int (nI A7.due)])) := hM7.1.2 0 (by decide)
    refine lv_istore (lv' := [(6, .int x8), (5, .int (nI ((x_link σ (xs (i + 1)) (xs (i + 2)) (xs (i + 3))).2.1))), (0, .ref b), (1, .ref (L 0)), (2, .ref (K 0)), (3, .ref o9), (4, .int (nI i))]) hx hb d_Law_law_544 hl (by decide) rfl (fun ls hl => ?_)
    refine lv_aload_n hx hb d_Law_law_546 rfl (lv_at hl 4 rfl) ?_
    refine hv_call (hv_runV (As := []) (rest := []) (c_Model_thrown C hM7) (hv_cw C hZ kc_Model_thrown kn_Model ⟨rfl, rfl, Nat.le_of_ble_eq_true rfl, Nat.le_of_ble_eq_true rfl⟩) hv_blind (hv_pre hZ hS hP) hx hml hb hown (hts _ k_Law_65) (hts _ ki_Model_thrown) (hts _ ksel_Model_Model_thrown) hy_Model_thrown (hts _ kc_Model_thrown) (va_recv hK (hv_one hP h6) (ci := 7) (q0 := 0) rfl rfl) rfl hl.1 rfl (lv_room (Nat.le_of_ble_eq_true rfl)) d_Law_law_547 ⟨by show _ ≤ 601024; omega, by show _ ≤ 7293034; omega⟩) hZ hS (fun v9 w7 H locs q8 hP hS => ?_) (fun x9 w7 H locs q8 hP hS => q8.elim)
    obtain ⟨hv9, hw9⟩ := q8
    subst hv9
    rw [hw9] at hP
    show W _ _ _ _ _ _ _ _ _ _ _ _ _ _ _ (F0 m 550 ls [.int A7.thrown])
    refine lv_topi (fun v9 e9 => ?_)
    have e9 : v9 = nI ((x_link σ (xs (i + 1)) (xs (i + 2)) (xs (i + 3))).2.1) := e9.trans (ht7)
    subst e9
    show W _ _ _ _ _ _ _ _ _ _ _ _ _ _ _ (F0 m 550 ls [.int (nI ((x_link σ (xs (i + 1)) (xs (i + 2)) (xs (i + 3))).2.1))])
    refine lv_iload hx hb d_Law_law_550 (lv_at hl 1 rfl) ?_
    refine gk_icmp_eq (x := (x_link σ (xs (i + 1)) (xs (i + 2)) (xs (i + 3))).2.1) (y := (x_link σ (xs (i + 1)) (xs (i + 2)) (xs (i + 3))).2.1) (tgt := 557) hx hb d_Law_law_552 (by decide) (by omega) (by omega) (fun c552 => ?_) (fun c552 => ?_)
    · refine lv_iload hx hb d_Law_law_557 (lv_at hl 1 rfl) ?_
      refine gk_if_ne (x := (x_link σ (xs (i + 1)) (xs (i + 2)) (xs (i + 3))).2.1) (tgt := 574) hx hb d_Law_law_559 (by decide) (by omega) (fun c559 => ?_) (fun c559 => ?_)
      · refine lv_goto (tgt := 1114) hx hb d_Law_law_574 (by decide) ?_
        refine W.widen (k := cells + 9) (n := slots + 69) (by omega) (by omega) ?_
        exact kk _ _ _ ⟨hgx1, hJ3⟩ _ _ _ hP hS (lv_sub hl [2, 3, 4, 5, 6] rfl)
      · exact absurd c559 hk9
    · exact absurd rfl c552
  · have hJ2 : lJ ca L K o9 (x_link σ (xs (i + 1)) (xs (i + 2)) (xs (i + 3))).1 σ (vp_updL f9 0 ((x_link σ (xs (i + 1)) (xs (i + 2)) (xs (i + 3))).2.2.toInt64)) w1 := by rw [hw9]; exact hJ1.out hgx1.1
    show W _ _ _ _ _ _ _ _ _ _ _ _ _ _ _ (F0 m 520 ls [.int (nI ((x_link σ (xs (i + 1)) (xs (i + 2)) (xs (i + 3))).2.1))])
    obtain ⟨-, ⟨t8, A8, B8, hM8, hR8, -⟩, -, -⟩ := id hJ2
    have h9 : w1 (K 0) = some (.inr (7, [.int A8.thrown, .ref (K 1), .ref (K 2), .ref (K 3), .ref (K 4), .ref (K 5), .ref (K 6), .ref (K 7), .ref (K 8), .ref (K 9), .ref (K 10), .ref (K 11), .ref (K 12), .int (nI A8.tapeSize), .ref (K 13), .int A8.error, .int A8.off, .int A8.inside, .int (nI A8.changes), .int (nI A8.earlier), .int (nI A8.logged), .int A8.over, .int (nI A8.loose), .int A8.written, .int (nI A8.due)])) := hM8.1.2 0 (by decide)
    refine lv_istore (lv' := [(5, .int (nI ((x_link σ (xs (i + 1)) (xs (i + 2)) (xs (i + 3))).2.1))), (0, .ref b), (1, .ref (L 0)), (2, .ref (K 0)), (3, .ref o9), (4, .int (nI i))]) hx hb d_Law_law_520 hl (by decide) rfl (fun ls hl => ?_)
    refine lv_aload_n hx hb d_Law_law_522 rfl (lv_at hl 3 rfl) ?_
    refine lv_aload_n hx hb d_Law_law_523 rfl (lv_at hl 1 rfl) ?_
    refine lv_iload hx hb d_Law_law_524 (lv_at hl 5 rfl) ?_
    refine lv_iconst (v := 1) hx hb d_Law_law_526 (by decide) ?_
    refine gk_iadd (x := i) (y := 1) hx hb d_Law_law_527 ?_
    refine va_sld hx hb hX hbl hbA hS (vp_in_nI (n := i + 1) (by omega) (by omega)) d_Law_law_528 ?_
    rw [nI_clamp (n := i + 1) (by omega)]
    refine lv_aload_n hx hb d_Law_law_529 rfl (lv_at hl 1 rfl) ?_
    refine lv_iload hx hb d_Law_law_530 (lv_at hl 5 rfl) ?_
    refine lv_iconst (v := 2) hx hb d_Law_law_532 (by decide) ?_
    refine gk_iadd (x := i) (y := 2) hx hb d_Law_law_533 ?_
    refine va_sld hx hb hX hbl hbA hS (vp_in_nI (n := i + 2) (by omega) (by omega)) d_Law_law_534 ?_
    rw [nI_clamp (n := i + 2) (by omega)]
    refine lv_aload_n hx hb d_Law_law_535 rfl (lv_at hl 1 rfl) ?_
    refine lv_iload hx hb d_Law_law_536 (lv_at hl 5 rfl) ?_
    refine lv_iconst (v := 3) hx hb d_Law_law_538 (by decide) ?_
    refine gk_iadd (x := i) (y := 3) hx hb d_Law_law_539 ?_
    refine va_sld hx hb hX hbl hbA hS (vp_in_nI (n := i + 3) (by omega) (by omega)) d_Law_law_540 ?_
    rw [nI_clamp (n := i + 3) (by omega)]
    refine hv_call (hv_runV (As := [.int (xs (i + 1)), .int (xs (i + 2)), .int (xs (i + 3))]) (rest := []) (c_Model_link C (xs (i + 1)) (xs (i + 2)) (xs (i + 3)) hM8 hR8 hW) (hv_cw C hZ kc_Model_link kn_Model ⟨rfl, rfl, Nat.le_of_ble_eq_true rfl, Nat.le_of_ble_eq_true rfl⟩) hv_blind (hv_pre hZ hS hP) hx hml hb hown (hts _ k_Law_79) (hts _ ki_Model_link) (hts _ ksel_Model_Model_link) hy_Model_link (hts _ kc_Model_link) (va_recv hK (hv_one hP h9) (ci := 7) (q0 := 0) rfl rfl) rfl hl.1 rfl (lv_room (Nat.le_of_ble_eq_true rfl)) d_Law_law_541 ⟨by show _ ≤ 601024; omega, by show _ ≤ 7293034; omega⟩) hZ hS (fun v9 w10 H locs q11 hP hS => ?_) (fun x9 w10 H locs q11 hP hS => q11.elim)
    obtain ⟨x8, hv8, hx8, hS8⟩ := q11
    subst hv8
    have hx8 := hx8 hk9
    subst hx8
    have hJ3 := hJ2.mod hgx1.1 hS8
    show W _ _ _ _ _ _ _ _ _ _ _ _ _ _ _ (F0 m 544 ls [.int ((x_link σ (xs (i + 1)) (xs (i + 2)) (xs (i + 3))).2.2)])
    obtain ⟨A7, B7, hM7, hR7, ht7⟩ := id hS8
    have h12 : w10 (K 0) = some (.inr (7, [.int A7.thrown, .ref (K 1), .ref (K 2), .ref (K 3), .ref (K 4), .ref (K 5), .ref (K 6), .ref (K 7), .ref (K 8), .ref (K 9), .ref (K 10), .ref (K 11), .ref (K 12), .int (nI A7.tapeSize), .ref (K 13), .int A7.error, .int A7.off, .int A7.inside, .int (nI A7.changes), .int (nI A7.earlier), .int (nI A7.logged), .int A7.over, .int (nI A7.loose), .int A7.written, .int (nI A7.due)])) := hM7.1.2 0 (by decide)
    have h13 : w10 o9 = some (.inl (ca 3, 1, .inr (.inl (vp_updL f9 0 ((x_link σ (xs (i + 1)) (xs (i + 2)) (xs (i + 3))).2.2.toInt64))))) := hJ3.2.2.1
    refine lv_istore (lv' := [(6, .int ((x_link σ (xs (i + 1)) (xs (i + 2)) (xs (i + 3))).2.2)), (5, .int (nI ((x_link σ (xs (i + 1)) (xs (i + 2)) (xs (i + 3))).2.1))), (0, .ref b), (1, .ref (L 0)), (2, .ref (K 0)), (3, .ref o9), (4, .int (nI i))]) hx hb d_Law_law_544 hl (by decide) rfl (fun ls hl => ?_)
    refine lv_aload_n hx hb d_Law_law_546 rfl (lv_at hl 4 rfl) ?_
    refine hv_call (hv_runV (As := []) (rest := []) (c_Model_thrown C hM7) (hv_cw C hZ kc_Model_thrown kn_Model ⟨rfl, rfl, Nat.le_of_ble_eq_true rfl, Nat.le_of_ble_eq_true rfl⟩) hv_blind (hv_pre hZ hS hP) hx hml hb hown (hts _ k_Law_65) (hts _ ki_Model_thrown) (hts _ ksel_Model_Model_thrown) hy_Model_thrown (hts _ kc_Model_thrown) (va_recv hK (hv_one hP h12) (ci := 7) (q0 := 0) rfl rfl) rfl hl.1 rfl (lv_room (Nat.le_of_ble_eq_true rfl)) d_Law_law_547 ⟨by show _ ≤ 601024; omega, by show _ ≤ 7293034; omega⟩) hZ hS (fun v9 w14 H locs q15 hP hS => ?_) (fun x9 w14 H locs q15 hP hS => q15.elim)
    obtain ⟨hv9, hw9⟩ := q15
    subst hv9
    rw [hw9] at hP
    show W _ _ _ _ _ _ _ _ _ _ _ _ _ _ _ (F0 m 550 ls [.int A7.thrown])
    refine lv_topi (fun v9 e9 => ?_)
    have e9 : v9 = nI ((x_link σ (xs (i + 1)) (xs (i + 2)) (xs (i + 3))).2.1) := e9.trans (ht7)
    subst e9
    show W _ _ _ _ _ _ _ _ _ _ _ _ _ _ _ (F0 m 550 ls [.int (nI ((x_link σ (xs (i + 1)) (xs (i + 2)) (xs (i + 3))).2.1))])
    refine lv_iload hx hb d_Law_law_550 (lv_at hl 1 rfl) ?_
    refine gk_icmp_eq (x := (x_link σ (xs (i + 1)) (xs (i + 2)) (xs (i + 3))).2.1) (y := (x_link σ (xs (i + 1)) (xs (i + 2)) (xs (i + 3))).2.1) (tgt := 557) hx hb d_Law_law_552 (by decide) (by omega) (by omega) (fun c552 => ?_) (fun c552 => ?_)
    · refine lv_iload hx hb d_Law_law_557 (lv_at hl 1 rfl) ?_
      refine gk_if_ne (x := (x_link σ (xs (i + 1)) (xs (i + 2)) (xs (i + 3))).2.1) (tgt := 574) hx hb d_Law_law_559 (by decide) (by omega) (fun c559 => ?_) (fun c559 => ?_)
      · exact absurd hk9 c559
      · refine lv_aload_n hx hb d_Law_law_562 rfl (lv_at hl 5 rfl) ?_
        refine lv_iconst (v := 0) hx hb d_Law_law_563 (by decide) ?_
        refine va_lald hx hb hK (hv_one hP h13) 0 3 rfl rfl (vp_in_nI (n := 0) (by omega) (by omega)) d_Law_law_564 ?_
        rw [show Int32.toNatClampNeg 0 = 0 by decide]
        refine lv_topl (fun v9 e9 => ?_)
        have e9 : v9 = (x_link σ (xs (i + 1)) (xs (i + 2)) (xs (i + 3))).2.2.toInt64 := e9.trans (m_uLs)
        subst e9
        show W _ _ _ _ _ _ _ _ _ _ _ _ _ _ _ (F0 m 565 ls [.long ((x_link σ (xs (i + 1)) (xs (i + 2)) (xs (i + 3))).2.2.toInt64)])
        refine lv_iload hx hb d_Law_law_565 (lv_at hl 0 rfl) ?_
        refine lv_i2l (v := ((x_link σ (xs (i + 1)) (xs (i + 2)) (xs (i + 3))).2.2).toInt64) hx hb d_Law_law_567 rfl ?_
        refine W.lcmp hx hb d_Law_law_568 ?_
        refine lv_if_eq (tgt := 574) hx hb d_Law_law_569 (by decide) (fun c569 => ?_) (fun c569 => ?_)
        · refine lv_goto (tgt := 1114) hx hb d_Law_law_574 (by decide) ?_
          refine W.widen (k := cells + 9) (n := slots + 69) (by omega) (by omega) ?_
          exact kk _ _ _ ⟨hgx1, hJ3⟩ _ _ _ hP hS (lv_sub hl [2, 3, 4, 5, 6] rfl)
        · exact absurd (g_lcmp_refl _) c569
    · exact absurd rfl c552

set_option maxHeartbeats 4000000 in
set_option maxRecDepth 100000 in
theorem lc_take {p : Program} {l : Launch} {e : Env} {s : State} {m : MethodId} {below : List Frame} {meth : Method} {c : Code} {D : va_G} {ca : Nat → ClassId} {b n0 : Nat} {xs : Nat → Int32} {Q : State → Prop} (F : lF l s D ca p m c b n0 xs) {L K : Nat → Nat} {o9 i cells slots : Nat} (hi : i + 7 ≤ n0) (hcl : cells + 9 ≤ 601024) (hsl : slots + 69 ≤ 7293034) (kk : lKK p l e s m below meth c D ca L K o9 b i cells slots Q)
    {w : hv_W} {σ : gS} {f9 : Nat → Int64} (I : lI ca L K o9 σ f9 w) {H : Heap} {locs : List Loc} {ls : Array Slot} (hP : hv_P D classes s.heap.size w H) (hS : va_S (hv_A s.heap.size) s.heap H locs) (hl : lv_has ls 8 (lLoc b L K o9 i)) : W p l e room_1 s m #[Value.ref b] below meth c H locs cells slots Q (F0 m 577 ls []) := by
  obtain ⟨C, N, hx, hb, hml, hown, hts, hX, hbl, hn0⟩ := F
  have hK : va_K D classes (hv_tys ca) s := C.1
  have hZ : hv_Z s s := hv_Z.refl s
  have hbA : ¬ hv_A s.heap.size b := Nat.not_le.mpr hbl
  have hl : lv_has ls 8 [(0, .ref b), (1, .ref (L 0)), (2, .ref (K 0)), (3, .ref o9), (4, .int (nI i))] := hl
  obtain ⟨hgx, hJ⟩ := I
  have hW : gW σ := hgx.1
  obtain ⟨⟨P, hM, hR⟩, -, ho9, hap⟩ := id hJ
  have hlo : ¬ cM L o9 := hap.2.2.1
  have h0 : w (L 0) = some (.inr (0, [.ref (L 1), .ref (L 2), .ref (L 3), .ref (L 4), .ref (L 5), .ref (L 6), .ref (L 7), .int (σ.err), .int (nI σ.sc), .int (nI σ.ec), .int (σ.ins), .int (σ.off)])) := hM.1.2 0 (by decide)
  refine lv_aload_n hx hb d_Law_law_577 rfl (lv_at hl 1 rfl) ?_
  refine lv_aload_n hx hb d_Law_law_578 rfl (lv_at hl 0 rfl) ?_
  refine lv_iload hx hb d_Law_law_579 (lv_at hl 4 rfl) ?_
  refine lv_iconst (v := 1) hx hb d_Law_law_581 (by decide) ?_
  refine gk_iadd (x := i) (y := 1) hx hb d_Law_law_582 ?_
  refine va_sld hx hb hX hbl hbA hS (vp_in_nI (n := i + 1) (by omega) (by omega)) d_Law_law_583 ?_
  rw [nI_clamp (n := i + 1) (by omega)]
  refine lv_aload_n hx hb d_Law_law_584 rfl (lv_at hl 0 rfl) ?_
  refine lv_iload hx hb d_Law_law_585 (lv_at hl 4 rfl) ?_
  refine lv_iconst (v := 2) hx hb d_Law_law_587 (by decide) ?_
  refine gk_iadd (x := i) (y := 2) hx hb d_Law_law_588 ?_
  refine va_sld hx hb hX hbl hbA hS (vp_in_nI (n := i + 2) (by omega) (by omega)) d_Law_law_589 ?_
  rw [nI_clamp (n := i + 2) (by omega)]
  refine hv_call (hv_runS (As := [.ref (L 0), .int (xs (i + 1)), .int (xs (i + 2))]) (rest := []) (c_Law_take C N (xs (i + 1)) (xs (i + 2)) hM hR hW) (hv_cwW C hZ kc_Law_take kn_Law ⟨rfl, rfl, Nat.le_of_ble_eq_true rfl, Nat.le_of_ble_eq_true rfl⟩) hv_blind (hv_pre hZ hS hP) hx hml hb hown (hts _ k_Law_80) (hts _ ki_Law_take) (hts _ kn_Law) hy_Law_take (hv_sigW (hts _ kc_Law_take)) rfl hl.1 rfl (lv_room (Nat.le_of_ble_eq_true rfl)) d_Law_law_590 ⟨by show _ ≤ 601024; omega, by show _ ≤ 7293034; omega⟩) hZ hS (fun v9 w1 H locs q2 hP hS => ?_) (fun x9 w1 H locs q2 hP hS => q2.elim)
  have hgx1 : gX (x_take σ (xs (i + 1)) (xs (i + 2))).1 := gX_take hgx (xs (i + 1)) (xs (i + 2))
  obtain ⟨hv9, hk2, hP9⟩ := q2
  subst hv9
  have hJ2 := hJ.cls hP9
  show W _ _ _ _ _ _ _ _ _ _ _ _ _ _ _ (F0 m 593 ls [.int (nI ((x_take σ (xs (i + 1)) (xs (i + 2))).2.1))])
  obtain ⟨-, ⟨t8, A8, B8, hM8, hR8, -⟩, -, -⟩ := id hJ2
  have h3 : w1 (K 0) = some (.inr (7, [.int A8.thrown, .ref (K 1), .ref (K 2), .ref (K 3), .ref (K 4), .ref (K 5), .ref (K 6), .ref (K 7), .ref (K 8), .ref (K 9), .ref (K 10), .ref (K 11), .ref (K 12), .int (nI A8.tapeSize), .ref (K 13), .int A8.error, .int A8.off, .int A8.inside, .int (nI A8.changes), .int (nI A8.earlier), .int (nI A8.logged), .int A8.over, .int (nI A8.loose), .int A8.written, .int (nI A8.due)])) := hM8.1.2 0 (by decide)
  refine lv_istore (lv' := [(5, .int (nI ((x_take σ (xs (i + 1)) (xs (i + 2))).2.1))), (0, .ref b), (1, .ref (L 0)), (2, .ref (K 0)), (3, .ref o9), (4, .int (nI i))]) hx hb d_Law_law_593 hl (by decide) rfl (fun ls hl => ?_)
  refine lv_aload_n hx hb d_Law_law_595 rfl (lv_at hl 3 rfl) ?_
  refine lv_aload_n hx hb d_Law_law_596 rfl (lv_at hl 1 rfl) ?_
  refine lv_iload hx hb d_Law_law_597 (lv_at hl 5 rfl) ?_
  refine lv_iconst (v := 1) hx hb d_Law_law_599 (by decide) ?_
  refine gk_iadd (x := i) (y := 1) hx hb d_Law_law_600 ?_
  refine va_sld hx hb hX hbl hbA hS (vp_in_nI (n := i + 1) (by omega) (by omega)) d_Law_law_601 ?_
  rw [nI_clamp (n := i + 1) (by omega)]
  refine lv_aload_n hx hb d_Law_law_602 rfl (lv_at hl 1 rfl) ?_
  refine lv_iload hx hb d_Law_law_603 (lv_at hl 5 rfl) ?_
  refine lv_iconst (v := 2) hx hb d_Law_law_605 (by decide) ?_
  refine gk_iadd (x := i) (y := 2) hx hb d_Law_law_606 ?_
  refine va_sld hx hb hX hbl hbA hS (vp_in_nI (n := i + 2) (by omega) (by omega)) d_Law_law_607 ?_
  rw [nI_clamp (n := i + 2) (by omega)]
  refine hv_call (hv_runV (As := [.int (xs (i + 1)), .int (xs (i + 2))]) (rest := []) (c_Model_take C (xs (i + 1)) (xs (i + 2)) hM8 hR8 hW) (hv_cw C hZ kc_Model_take kn_Model ⟨rfl, rfl, Nat.le_of_ble_eq_true rfl, Nat.le_of_ble_eq_true rfl⟩) hv_blind (hv_pre hZ hS hP) hx hml hb hown (hts _ k_Law_83) (hts _ ki_Model_take) (hts _ ksel_Model_Model_take) hy_Model_take (hts _ kc_Model_take) (va_recv hK (hv_one hP h3) (ci := 7) (q0 := 0) rfl rfl) rfl hl.1 rfl (lv_room (Nat.le_of_ble_eq_true rfl)) d_Law_law_608 ⟨by show _ ≤ 601024; omega, by show _ ≤ 7293034; omega⟩) hZ hS (fun v9 w4 H locs q5 hP hS => ?_) (fun x9 w4 H locs q5 hP hS => q5.elim)
  obtain ⟨hv8, hS8⟩ := q5
  subst hv8
  have hJ3 := hJ2.mod hgx1.1 hS8
  show W _ _ _ _ _ _ _ _ _ _ _ _ _ _ _ (F0 m 611 ls [])
  obtain ⟨A7, B7, hM7, hR7, ht7⟩ := id hS8
  have h6 : w4 (K 0) = some (.inr (7, [.int A7.thrown, .ref (K 1), .ref (K 2), .ref (K 3), .ref (K 4), .ref (K 5), .ref (K 6), .ref (K 7), .ref (K 8), .ref (K 9), .ref (K 10), .ref (K 11), .ref (K 12), .int (nI A7.tapeSize), .ref (K 13), .int A7.error, .int A7.off, .int A7.inside, .int (nI A7.changes), .int (nI A7.earlier), .int (nI A7.logged), .int A7.over, .int (nI A7.loose), .int A7.written, .int (nI A7.due)])) := hM7.1.2 0 (by decide)
  refine lv_aload_n hx hb d_Law_law_611 rfl (lv_at hl 3 rfl) ?_
  refine hv_call (hv_runV (As := []) (rest := []) (c_Model_thrown C hM7) (hv_cw C hZ kc_Model_thrown kn_Model ⟨rfl, rfl, Nat.le_of_ble_eq_true rfl, Nat.le_of_ble_eq_true rfl⟩) hv_blind (hv_pre hZ hS hP) hx hml hb hown (hts _ k_Law_65) (hts _ ki_Model_thrown) (hts _ ksel_Model_Model_thrown) hy_Model_thrown (hts _ kc_Model_thrown) (va_recv hK (hv_one hP h6) (ci := 7) (q0 := 0) rfl rfl) rfl hl.1 rfl (lv_room (Nat.le_of_ble_eq_true rfl)) d_Law_law_612 ⟨by show _ ≤ 601024; omega, by show _ ≤ 7293034; omega⟩) hZ hS (fun v9 w7 H locs q8 hP hS => ?_) (fun x9 w7 H locs q8 hP hS => q8.elim)
  obtain ⟨hv9, hw9⟩ := q8
  subst hv9
  rw [hw9] at hP
  show W _ _ _ _ _ _ _ _ _ _ _ _ _ _ _ (F0 m 615 ls [.int A7.thrown])
  refine lv_topi (fun v9 e9 => ?_)
  have e9 : v9 = nI ((x_take σ (xs (i + 1)) (xs (i + 2))).2.1) := e9.trans (ht7)
  subst e9
  show W _ _ _ _ _ _ _ _ _ _ _ _ _ _ _ (F0 m 615 ls [.int (nI ((x_take σ (xs (i + 1)) (xs (i + 2))).2.1))])
  refine lv_iload hx hb d_Law_law_615 (lv_at hl 0 rfl) ?_
  refine gk_icmp_eq (x := (x_take σ (xs (i + 1)) (xs (i + 2))).2.1) (y := (x_take σ (xs (i + 1)) (xs (i + 2))).2.1) (tgt := 622) hx hb d_Law_law_617 (by decide) (by omega) (by omega) (fun c617 => ?_) (fun c617 => ?_)
  · refine lv_goto (tgt := 1114) hx hb d_Law_law_622 (by decide) ?_
    refine W.widen (k := cells + 9) (n := slots + 69) (by omega) (by omega) ?_
    exact kk _ _ _ ⟨hgx1, hJ3⟩ _ _ _ hP hS (lv_sub hl [1, 2, 3, 4, 5] rfl)
  · exact absurd rfl c617

set_option maxHeartbeats 4000000 in
set_option maxRecDepth 100000 in
theorem lc_error {p : Program} {l : Launch} {e : Env} {s : State} {m : MethodId} {below : List Frame} {meth : Method} {c : Code} {D : va_G} {ca : Nat → ClassId} {b n0 : Nat} {xs : Nat → Int32} {Q : State → Prop} (F : lF l s D ca p m c b n0 xs) {L K : Nat → Nat} {o9 i cells slots : Nat} (hi : i + 7 ≤ n0) (hcl : cells + 9 ≤ 601024) (hsl : slots + 69 ≤ 7293034) (kk : lKK p l e s m below meth c D ca L K o9 b i cells slots Q)
    {w : hv_W} {σ : gS} {f9 : Nat → Int64} (I : lI ca L K o9 σ f9 w) {H : Heap} {locs : List Loc} {ls : Array Slot} (hP : hv_P D classes s.heap.size w H) (hS : va_S (hv_A s.heap.size) s.heap H locs) (hl : lv_has ls 8 (lLoc b L K o9 i)) : W p l e room_1 s m #[Value.ref b] below meth c H locs cells slots Q (F0 m 625 ls []) := by
  obtain ⟨C, N, hx, hb, hml, hown, hts, hX, hbl, hn0⟩ := F
  have hK : va_K D classes (hv_tys ca) s := C.1
  have hZ : hv_Z s s := hv_Z.refl s
  have hbA : ¬ hv_A s.heap.size b := Nat.not_le.mpr hbl
  have hl : lv_has ls 8 [(0, .ref b), (1, .ref (L 0)), (2, .ref (K 0)), (3, .ref o9), (4, .int (nI i))] := hl
  obtain ⟨hgx, hJ⟩ := I
  have hW : gW σ := hgx.1
  obtain ⟨⟨P, hM, hR⟩, -, ho9, hap⟩ := id hJ
  have hlo : ¬ cM L o9 := hap.2.2.1
  have h0 : w (L 0) = some (.inr (0, [.ref (L 1), .ref (L 2), .ref (L 3), .ref (L 4), .ref (L 5), .ref (L 6), .ref (L 7), .int (σ.err), .int (nI σ.sc), .int (nI σ.ec), .int (σ.ins), .int (σ.off)])) := hM.1.2 0 (by decide)
  obtain ⟨-, ⟨t8, A8, B8, hM8, hR8, -⟩, -, -⟩ := id hJ
  have h1 : w (K 0) = some (.inr (7, [.int A8.thrown, .ref (K 1), .ref (K 2), .ref (K 3), .ref (K 4), .ref (K 5), .ref (K 6), .ref (K 7), .ref (K 8), .ref (K 9), .ref (K 10), .ref (K 11), .ref (K 12), .int (nI A8.tapeSize), .ref (K 13), .int A8.error, .int A8.off, .int A8.inside, .int (nI A8.changes), .int (nI A8.earlier), .int (nI A8.logged), .int A8.over, .int (nI A8.loose), .int A8.written, .int (nI A8.due)])) := hM8.1.2 0 (by decide)
  refine lv_aload_n hx hb d_Law_law_625 rfl (lv_at hl 1 rfl) ?_
  refine hv_call (hv_runV (As := []) (rest := []) (c_GK_error C N  hM hR) (hv_cw C hZ kc_GK_error kn_GK ⟨rfl, rfl, Nat.le_of_ble_eq_true rfl, Nat.le_of_ble_eq_true rfl⟩) hv_blind (hv_pre hZ hS hP) hx hml hb hown (hts _ k_Law_84) (hts _ ki_GK_error) (hts _ ksel_GK_GK_error) hy_GK_error (hts _ kc_GK_error) (va_recv hK (hv_one hP h0) (ci := 0) (q0 := 0) rfl rfl) rfl hl.1 rfl (lv_room (Nat.le_of_ble_eq_true rfl)) d_Law_law_626 ⟨by show _ ≤ 601024; omega, by show _ ≤ 7293034; omega⟩) hZ hS (fun v9 w2 H locs q3 hP hS => ?_) (fun x9 w2 H locs q3 hP hS => q3.elim)
  obtain ⟨hv9, hw9⟩ := q3
  subst hv9
  rw [hw9] at hP
  show W _ _ _ _ _ _ _ _ _ _ _ _ _ _ _ (F0 m 629 ls [.int (σ.err)])
  refine lv_aload_n hx hb d_Law_law_629 rfl (lv_at hl 2 rfl) ?_
  refine hv_call (hv_runV (As := []) (rest := [.int (σ.err)]) (c_Model_error C  hM8 hR8 hW) (hv_cw C hZ kc_Model_error kn_Model ⟨rfl, rfl, Nat.le_of_ble_eq_true rfl, Nat.le_of_ble_eq_true rfl⟩) hv_blind (hv_pre hZ hS hP) hx hml hb hown (hts _ k_Law_87) (hts _ ki_Model_error) (hts _ ksel_Model_Model_error) hy_Model_error (hts _ kc_Model_error) (va_recv hK (hv_one hP h1) (ci := 7) (q0 := 0) rfl rfl) rfl hl.1 rfl (lv_room (Nat.le_of_ble_eq_true rfl)) d_Law_law_630 ⟨by show _ ≤ 601024; omega, by show _ ≤ 7293034; omega⟩) hZ hS (fun v9 w4 H locs q5 hP hS => ?_) (fun x9 w4 H locs q5 hP hS => q5.elim)
  obtain ⟨hv8, hS8⟩ := q5
  subst hv8
  have hJ2 := hJ.mod hW hS8
  show W _ _ _ _ _ _ _ _ _ _ _ _ _ _ _ (F0 m 633 ls [.int (σ.err), .int (σ.err)])
  refine lv_icmp_eq (tgt := 1114) hx hb d_Law_law_633 (by decide) (fun c633 => ?_) (fun c633 => ?_)
  · refine W.widen (k := cells + 9) (n := slots + 69) (by omega) (by omega) ?_
    exact kk _ _ _ ⟨hgx, hJ2⟩ _ _ _ hP hS (lv_sub hl [0, 1, 2, 3, 4] rfl)
  · exact absurd rfl c633
