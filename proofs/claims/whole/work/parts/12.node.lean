abbrev rm_Pr_init : Room := { frames := 1, cells := 0, slots := 0, locals := 12 }
set_option maxHeartbeats 4000000 in
set_option maxRecDepth 100000 in
theorem c_Pr_init {l : Launch} {s0 : State} {D : va_G} {ca : Nat → ClassId} (C : hv_C l s0 D (hv_tys ca)) {w : hv_W} {a t : Nat} (k d : Int32) (x : Int64) (h0 : w a = some (.inr (4, [.int 0, .int 0, .long 0, .null])))  :
    hv_Met l y_Pr_init [.code y_Pr_init b_Pr_init 6 none] rm_Pr_init (hv_Pc s0 D w [.ref a, .int k, .int d, .long x, .ref t]) (hv_Q s0 D (fun v w' => v = none ∧ hv_U a (.inr (4, [.int k, .int d, .long x, .ref t])) w w') (fun _ _ => False)) 0 0 (hv_A s0.heap.size) := by
  refine hv_enter C _ (by decide) (Nat.le_of_ble_eq_true rfl) ?_
  intro p e s m below meth c ls Q hQ hx hb hr hml hown hts hK hZ hlocks hname hout htr hP hl
  have hown : s.vm.findClass R_Pr = some m.cls := hown
  have hS : va_S (hv_A s0.heap.size) s.heap s.heap [] := va_S.rf
  have hl : lv_has ls 6 [(0, .ref a), (1, .int k), (2, .int d), (3, .long x), (5, .ref t)] := hl
  refine lv_aload_n hx hb d_Pr_init_0 rfl (lv_at hl 0 rfl) ?_
  refine W.objInit hx hb hown (hts _ k_Pr_1) (hts _ ki_objInit) (hts _ kc_objInit) rfl (by rw [hml]; exact hl.1) rfl d_Pr_init_1 (Nat.le_of_ble_eq_true rfl) (Nat.le_of_ble_eq_true rfl) ?_
  show W _ _ _ _ _ _ _ _ _ _ _ _ _ _ _ (F0 m 4 ls [])
  refine lv_aload_n hx hb d_Pr_init_4 rfl (lv_at hl 0 rfl) ?_
  refine lv_iload_n hx hb d_Pr_init_5 rfl (lv_at hl 1 rfl) ?_
  refine hv_putF (D := D) (ci := 4) (v := .int k) (ty := .int) (C := R_Pr) (T := F_Pr) (N := 4) hx hb hts i_Pr t_Pr t_Pr_ok n_Pr hown hK hP hS h0 rfl 0 (by decide) (hts _ k_Pr_7) (fun _ h9 => h9) rfl hname rfl (by decide +kernel) rfl rfl (Nat.le_of_ble_eq_true rfl) d_Pr_init_6 (fun H locs hP hS => ?_)
  obtain ⟨w1, ew1⟩ : ∃ z9 : hv_W, z9 = va_up w a (some (.inr (4, [.int k, .int 0, .long 0, .null]))) := ⟨_, rfl⟩
  have hP : hv_P D classes s0.heap.size w1 H := by rw [ew1]; exact hP
  have h2 : w1 a = some (.inr (4, [.int k, .int 0, .long 0, .null])) := by rw [ew1]; exact hv_up_s
  refine lv_aload_n hx hb d_Pr_init_9 rfl (lv_at hl 0 rfl) ?_
  refine lv_iload_n hx hb d_Pr_init_10 rfl (lv_at hl 2 rfl) ?_
  refine hv_putF (D := D) (ci := 4) (v := .int d) (ty := .int) (C := R_Pr) (T := F_Pr) (N := 4) hx hb hts i_Pr t_Pr t_Pr_ok n_Pr hown hK hP hS h2 rfl 1 (by decide) (hts _ k_Pr_13) (fun _ h9 => h9) rfl hname rfl (by decide +kernel) rfl rfl (Nat.le_of_ble_eq_true rfl) d_Pr_init_11 (fun H locs hP hS => ?_)
  obtain ⟨w3, ew3⟩ : ∃ z9 : hv_W, z9 = va_up w1 a (some (.inr (4, [.int k, .int d, .long 0, .null]))) := ⟨_, rfl⟩
  have hP : hv_P D classes s0.heap.size w3 H := by rw [ew3]; exact hP
  have h4 : w3 a = some (.inr (4, [.int k, .int d, .long 0, .null])) := by rw [ew3]; exact hv_up_s
  refine lv_aload_n hx hb d_Pr_init_14 rfl (lv_at hl 0 rfl) ?_
  refine lv_lload_n hx hb d_Pr_init_15 rfl (lv_at hl 3 rfl) ?_
  refine hv_putF (D := D) (ci := 4) (v := .long x) (ty := .long) (C := R_Pr) (T := F_Pr) (N := 4) hx hb hts i_Pr t_Pr t_Pr_ok n_Pr hown hK hP hS h4 rfl 2 (by decide) (hts _ k_Pr_16) (fun _ h9 => h9) rfl hname rfl (by decide +kernel) rfl rfl (Nat.le_of_ble_eq_true rfl) d_Pr_init_16 (fun H locs hP hS => ?_)
  obtain ⟨w5, ew5⟩ : ∃ z9 : hv_W, z9 = va_up w3 a (some (.inr (4, [.int k, .int d, .long x, .null]))) := ⟨_, rfl⟩
  have hP : hv_P D classes s0.heap.size w5 H := by rw [ew5]; exact hP
  have h6 : w5 a = some (.inr (4, [.int k, .int d, .long x, .null])) := by rw [ew5]; exact hv_up_s
  refine lv_aload_n hx hb d_Pr_init_19 rfl (lv_at hl 0 rfl) ?_
  refine lv_aload hx hb d_Pr_init_20 (lv_at hl 4 rfl) ?_
  refine hv_putF (D := D) (ci := 4) (v := .ref t) (ty := .array .byte) (C := R_Pr) (T := F_Pr) (N := 4) hx hb hts i_Pr t_Pr t_Pr_ok n_Pr hown hK hP hS h6 rfl 3 (by decide) (hts _ k_Pr_20) (fun _ h9 => h9) rfl hname rfl (by decide +kernel) rfl rfl (Nat.le_of_ble_eq_true rfl) d_Pr_init_22 (fun H locs hP hS => ?_)
  obtain ⟨w7, ew7⟩ : ∃ z9 : hv_W, z9 = va_up w5 a (some (.inr (4, [.int k, .int d, .long x, .ref t]))) := ⟨_, rfl⟩
  have hP : hv_P D classes s0.heap.size w7 H := by rw [ew7]; exact hP
  have h8 : w7 a = some (.inr (4, [.int k, .int d, .long x, .ref t])) := by rw [ew7]; exact hv_up_s
  exact hv_vret hQ hx hb hr hZ hS hP hlocks d_Pr_init_25 (⟨rfl, h8, fun b9 hb9 => by rw [ew7, hv_up_n hb9, ew5, hv_up_n hb9, ew3, hv_up_n hb9, ew1, hv_up_n hb9]⟩)

abbrev rm_Th_initN : Room := { frames := 1, cells := 0, slots := 0, locals := 12 }
set_option maxHeartbeats 4000000 in
set_option maxRecDepth 100000 in
theorem c_Th_initN {l : Launch} {s0 : State} {D : va_G} {ca : Nat → ClassId} (C : hv_C l s0 D (hv_tys ca)) {w : hv_W} {a pa : Nat} (h0 : w a = some (.inr (5, [.null, .null])))  :
    hv_Met l y_Th_init [.code y_Th_init b_Th_init 2 none] rm_Th_initN (hv_Pc s0 D w [.ref a, .ref pa]) (hv_Q s0 D (fun v w' => v = none ∧ hv_U a (.inr (5, [.ref pa, .null])) w w') (fun _ _ => False)) 0 0 (hv_A s0.heap.size) := by
  refine hv_enter C _ (by decide) (Nat.le_of_ble_eq_true rfl) ?_
  intro p e s m below meth c ls Q hQ hx hb hr hml hown hts hK hZ hlocks hname hout htr hP hl
  have hown : s.vm.findClass R_Th = some m.cls := hown
  have hS : va_S (hv_A s0.heap.size) s.heap s.heap [] := va_S.rf
  have hl : lv_has ls 2 [(0, .ref a), (1, .ref pa)] := hl
  refine lv_aload_n hx hb d_Th_init_0 rfl (lv_at hl 0 rfl) ?_
  refine W.objInit hx hb hown (hts _ k_Th_1) (hts _ ki_objInit) (hts _ kc_objInit) rfl (by rw [hml]; exact hl.1) rfl d_Th_init_1 (Nat.le_of_ble_eq_true rfl) (Nat.le_of_ble_eq_true rfl) ?_
  show W _ _ _ _ _ _ _ _ _ _ _ _ _ _ _ (F0 m 4 ls [])
  refine lv_aload_n hx hb d_Th_init_4 rfl (lv_at hl 0 rfl) ?_
  refine lv_aload_n hx hb d_Th_init_5 rfl (lv_at hl 1 rfl) ?_
  refine hv_putF (D := D) (ci := 5) (v := .ref pa) (ty := .array (.object "GraphKeep$Property")) (C := R_Nd) (T := F_Nd) (N := 2) hx hb hts i_Nd t_Nd t_Nd_ok n_Nd hown hK hP hS h0 rfl 0 (by decide) (hts _ k_Th_7) (fun _ h9 => h9) rfl hname rfl (by decide +kernel) rfl rfl (Nat.le_of_ble_eq_true rfl) d_Th_init_6 (fun H locs hP hS => ?_)
  obtain ⟨w1, ew1⟩ : ∃ z9 : hv_W, z9 = va_up w a (some (.inr (5, [.ref pa, .null]))) := ⟨_, rfl⟩
  have hP : hv_P D classes s0.heap.size w1 H := by rw [ew1]; exact hP
  have h2 : w1 a = some (.inr (5, [.ref pa, .null])) := by rw [ew1]; exact hv_up_s
  exact hv_vret hQ hx hb hr hZ hS hP hlocks d_Th_init_9 (⟨rfl, h2, fun b9 hb9 => by rw [ew1, hv_up_n hb9]⟩)

abbrev rm_Th_initL : Room := { frames := 1, cells := 0, slots := 0, locals := 12 }
set_option maxHeartbeats 4000000 in
set_option maxRecDepth 100000 in
theorem c_Th_initL {l : Launch} {s0 : State} {D : va_G} {ca : Nat → ClassId} (C : hv_C l s0 D (hv_tys ca)) {w : hv_W} {a pa : Nat} (h0 : w a = some (.inr (6, [.null, .int 0, .int 0, .int 0])))  :
    hv_Met l y_Th_init [.code y_Th_init b_Th_init 2 none] rm_Th_initL (hv_Pc s0 D w [.ref a, .ref pa]) (hv_Q s0 D (fun v w' => v = none ∧ hv_U a (.inr (6, [.ref pa, .int 0, .int 0, .int 0])) w w') (fun _ _ => False)) 0 0 (hv_A s0.heap.size) := by
  refine hv_enter C _ (by decide) (Nat.le_of_ble_eq_true rfl) ?_
  intro p e s m below meth c ls Q hQ hx hb hr hml hown hts hK hZ hlocks hname hout htr hP hl
  have hown : s.vm.findClass R_Th = some m.cls := hown
  have hS : va_S (hv_A s0.heap.size) s.heap s.heap [] := va_S.rf
  have hl : lv_has ls 2 [(0, .ref a), (1, .ref pa)] := hl
  refine lv_aload_n hx hb d_Th_init_0 rfl (lv_at hl 0 rfl) ?_
  refine W.objInit hx hb hown (hts _ k_Th_1) (hts _ ki_objInit) (hts _ kc_objInit) rfl (by rw [hml]; exact hl.1) rfl d_Th_init_1 (Nat.le_of_ble_eq_true rfl) (Nat.le_of_ble_eq_true rfl) ?_
  show W _ _ _ _ _ _ _ _ _ _ _ _ _ _ _ (F0 m 4 ls [])
  refine lv_aload_n hx hb d_Th_init_4 rfl (lv_at hl 0 rfl) ?_
  refine lv_aload_n hx hb d_Th_init_5 rfl (lv_at hl 1 rfl) ?_
  refine hv_putF (D := D) (ci := 6) (v := .ref pa) (ty := .array (.object "GraphKeep$Property")) (C := R_Lk) (T := F_Lk) (N := 4) hx hb hts i_Lk t_Lk t_Lk_ok n_Lk hown hK hP hS h0 rfl 0 (by decide) (hts _ k_Th_7) (fun _ h9 => h9) rfl hname rfl (by decide +kernel) rfl rfl (Nat.le_of_ble_eq_true rfl) d_Th_init_6 (fun H locs hP hS => ?_)
  obtain ⟨w1, ew1⟩ : ∃ z9 : hv_W, z9 = va_up w a (some (.inr (6, [.ref pa, .int 0, .int 0, .int 0]))) := ⟨_, rfl⟩
  have hP : hv_P D classes s0.heap.size w1 H := by rw [ew1]; exact hP
  have h2 : w1 a = some (.inr (6, [.ref pa, .int 0, .int 0, .int 0])) := by rw [ew1]; exact hv_up_s
  exact hv_vret hQ hx hb hr hZ hS hP hlocks d_Th_init_9 (⟨rfl, h2, fun b9 hb9 => by rw [ew1, hv_up_n hb9]⟩)

abbrev rm_Nd_init : Room := { frames := 2, cells := 0, slots := 0, locals := 33 }
set_option maxHeartbeats 4000000 in
set_option maxRecDepth 100000 in
theorem c_Nd_init {l : Launch} {s0 : State} {D : va_G} {ca : Nat → ClassId} (C : hv_C l s0 D (hv_tys ca)) {w : hv_W} {a lb pa : Nat} (h0 : w a = some (.inr (5, [.null, .null])))  :
    hv_Met l y_Nd_init [.code y_Nd_init b_Nd_init 3 none] rm_Nd_init (hv_Pc s0 D w [.ref a, .ref lb, .ref pa]) (hv_Q s0 D (fun v w' => v = none ∧ hv_U a (.inr (5, [.ref pa, .ref lb])) w w') (fun _ _ => False)) 0 0 (hv_A s0.heap.size) := by
  refine hv_enter C _ (by decide) (Nat.le_of_ble_eq_true rfl) ?_
  intro p e s m below meth c ls Q hQ hx hb hr hml hown hts hK hZ hlocks hname hout htr hP hl
  have hown : s.vm.findClass R_Nd = some m.cls := hown
  have hS : va_S (hv_A s0.heap.size) s.heap s.heap [] := va_S.rf
  have hl : lv_has ls 3 [(0, .ref a), (1, .ref lb), (2, .ref pa)] := hl
  refine lv_aload_n hx hb d_Nd_init_0 rfl (lv_at hl 0 rfl) ?_
  refine lv_aload_n hx hb d_Nd_init_1 rfl (lv_at hl 2 rfl) ?_
  refine hv_call (hv_runI (As := [.ref pa]) (rest := []) (c_Th_initN C h0) (hv_cw C hZ kc_Th_init kn_Th ⟨rfl, rfl, Nat.le_of_ble_eq_true rfl, Nat.le_of_ble_eq_true rfl⟩) hv_blind (hv_pre hZ hS hP) hx hml hb hown (hts _ k_Nd_1) (hts _ ki_Th_init) rfl hy_Th_init (hts _ kc_Th_init) rfl hl.1 rfl (lv_room (Nat.le_of_ble_eq_true rfl)) d_Nd_init_2 ⟨Nat.le_of_ble_eq_true rfl, Nat.le_of_ble_eq_true rfl⟩) hZ hS (fun v9 w1 H locs q2 hP hS => ?_) (fun x9 w1 H locs q2 hP hS => q2.elim)
  obtain ⟨rfl, q2u⟩ := q2
  show W _ _ _ _ _ _ _ _ _ _ _ _ _ _ _ (F0 m 5 ls [])
  refine lv_aload_n hx hb d_Nd_init_5 rfl (lv_at hl 0 rfl) ?_
  refine lv_aload_n hx hb d_Nd_init_6 rfl (lv_at hl 1 rfl) ?_
  refine hv_putF (D := D) (ci := 5) (v := .ref lb) (ty := .array .int) (C := R_Nd) (T := F_Nd) (N := 2) hx hb hts i_Nd t_Nd t_Nd_ok n_Nd hown hK hP hS q2u.1 rfl 1 (by decide) (hts _ k_Nd_7) (fun _ h9 => h9) rfl hname rfl (by decide +kernel) rfl rfl (Nat.le_of_ble_eq_true rfl) d_Nd_init_7 (fun H locs hP hS => ?_)
  obtain ⟨w3, ew3⟩ : ∃ z9 : hv_W, z9 = va_up w1 a (some (.inr (5, [.ref pa, .ref lb]))) := ⟨_, rfl⟩
  have hP : hv_P D classes s0.heap.size w3 H := by rw [ew3]; exact hP
  have h4 : w3 a = some (.inr (5, [.ref pa, .ref lb])) := by rw [ew3]; exact hv_up_s
  exact hv_vret hQ hx hb hr hZ hS hP hlocks d_Nd_init_10 (⟨rfl, h4, fun b9 hb9 => by rw [ew3, hv_up_n hb9]; exact q2u.2 b9 hb9⟩)

abbrev rm_Lk_init : Room := { frames := 2, cells := 0, slots := 0, locals := 33 }
set_option maxHeartbeats 4000000 in
set_option maxRecDepth 100000 in
theorem c_Lk_init {l : Launch} {s0 : State} {D : va_G} {ca : Nat → ClassId} (C : hv_C l s0 D (hv_tys ca)) {w : hv_W} {a pa : Nat} (sa ea ty : Int32) (h0 : w a = some (.inr (6, [.null, .int 0, .int 0, .int 0])))  :
    hv_Met l y_Lk_init [.code y_Lk_init b_Lk_init 5 none] rm_Lk_init (hv_Pc s0 D w [.ref a, .int sa, .int ea, .int ty, .ref pa]) (hv_Q s0 D (fun v w' => v = none ∧ hv_U a (.inr (6, [.ref pa, .int sa, .int ea, .int ty])) w w') (fun _ _ => False)) 0 0 (hv_A s0.heap.size) := by
  refine hv_enter C _ (by decide) (Nat.le_of_ble_eq_true rfl) ?_
  intro p e s m below meth c ls Q hQ hx hb hr hml hown hts hK hZ hlocks hname hout htr hP hl
  have hown : s.vm.findClass R_Lk = some m.cls := hown
  have hS : va_S (hv_A s0.heap.size) s.heap s.heap [] := va_S.rf
  have hl : lv_has ls 5 [(0, .ref a), (1, .int sa), (2, .int ea), (3, .int ty), (4, .ref pa)] := hl
  refine lv_aload_n hx hb d_Lk_init_0 rfl (lv_at hl 0 rfl) ?_
  refine lv_aload hx hb d_Lk_init_1 (lv_at hl 4 rfl) ?_
  refine hv_call (hv_runI (As := [.ref pa]) (rest := []) (c_Th_initL C h0) (hv_cw C hZ kc_Th_init kn_Th ⟨rfl, rfl, Nat.le_of_ble_eq_true rfl, Nat.le_of_ble_eq_true rfl⟩) hv_blind (hv_pre hZ hS hP) hx hml hb hown (hts _ k_Lk_1) (hts _ ki_Th_init) rfl hy_Th_init (hts _ kc_Th_init) rfl hl.1 rfl (lv_room (Nat.le_of_ble_eq_true rfl)) d_Lk_init_3 ⟨Nat.le_of_ble_eq_true rfl, Nat.le_of_ble_eq_true rfl⟩) hZ hS (fun v9 w1 H locs q2 hP hS => ?_) (fun x9 w1 H locs q2 hP hS => q2.elim)
  obtain ⟨rfl, q2u⟩ := q2
  show W _ _ _ _ _ _ _ _ _ _ _ _ _ _ _ (F0 m 6 ls [])
  refine lv_aload_n hx hb d_Lk_init_6 rfl (lv_at hl 0 rfl) ?_
  refine lv_iload_n hx hb d_Lk_init_7 rfl (lv_at hl 1 rfl) ?_
  refine hv_putF (D := D) (ci := 6) (v := .int sa) (ty := .int) (C := R_Lk) (T := F_Lk) (N := 4) hx hb hts i_Lk t_Lk t_Lk_ok n_Lk hown hK hP hS q2u.1 rfl 1 (by decide) (hts _ k_Lk_7) (fun _ h9 => h9) rfl hname rfl (by decide +kernel) rfl rfl (Nat.le_of_ble_eq_true rfl) d_Lk_init_8 (fun H locs hP hS => ?_)
  obtain ⟨w3, ew3⟩ : ∃ z9 : hv_W, z9 = va_up w1 a (some (.inr (6, [.ref pa, .int sa, .int 0, .int 0]))) := ⟨_, rfl⟩
  have hP : hv_P D classes s0.heap.size w3 H := by rw [ew3]; exact hP
  have h4 : w3 a = some (.inr (6, [.ref pa, .int sa, .int 0, .int 0])) := by rw [ew3]; exact hv_up_s
  refine lv_aload_n hx hb d_Lk_init_11 rfl (lv_at hl 0 rfl) ?_
  refine lv_iload_n hx hb d_Lk_init_12 rfl (lv_at hl 2 rfl) ?_
  refine hv_putF (D := D) (ci := 6) (v := .int ea) (ty := .int) (C := R_Lk) (T := F_Lk) (N := 4) hx hb hts i_Lk t_Lk t_Lk_ok n_Lk hown hK hP hS h4 rfl 2 (by decide) (hts _ k_Lk_13) (fun _ h9 => h9) rfl hname rfl (by decide +kernel) rfl rfl (Nat.le_of_ble_eq_true rfl) d_Lk_init_13 (fun H locs hP hS => ?_)
  obtain ⟨w5, ew5⟩ : ∃ z9 : hv_W, z9 = va_up w3 a (some (.inr (6, [.ref pa, .int sa, .int ea, .int 0]))) := ⟨_, rfl⟩
  have hP : hv_P D classes s0.heap.size w5 H := by rw [ew5]; exact hP
  have h6 : w5 a = some (.inr (6, [.ref pa, .int sa, .int ea, .int 0])) := by rw [ew5]; exact hv_up_s
  refine lv_aload_n hx hb d_Lk_init_16 rfl (lv_at hl 0 rfl) ?_
  refine lv_iload_n hx hb d_Lk_init_17 rfl (lv_at hl 3 rfl) ?_
  refine hv_putF (D := D) (ci := 6) (v := .int ty) (ty := .int) (C := R_Lk) (T := F_Lk) (N := 4) hx hb hts i_Lk t_Lk t_Lk_ok n_Lk hown hK hP hS h6 rfl 3 (by decide) (hts _ k_Lk_16) (fun _ h9 => h9) rfl hname rfl (by decide +kernel) rfl rfl (Nat.le_of_ble_eq_true rfl) d_Lk_init_18 (fun H locs hP hS => ?_)
  obtain ⟨w7, ew7⟩ : ∃ z9 : hv_W, z9 = va_up w5 a (some (.inr (6, [.ref pa, .int sa, .int ea, .int ty]))) := ⟨_, rfl⟩
  have hP : hv_P D classes s0.heap.size w7 H := by rw [ew7]; exact hP
  have h8 : w7 a = some (.inr (6, [.ref pa, .int sa, .int ea, .int ty])) := by rw [ew7]; exact hv_up_s
  exact hv_vret hQ hx hb hr hZ hS hP hlocks d_Lk_init_21 (⟨rfl, h8, fun b9 hb9 => by rw [ew7, hv_up_n hb9, ew5, hv_up_n hb9, ew3, hv_up_n hb9]; exact q2u.2 b9 hb9⟩)

abbrev rm_Th_placeOfN : Room := { frames := 0, cells := 0, slots := 0, locals := 0 }
set_option maxHeartbeats 4000000 in
set_option maxRecDepth 100000 in
/-- placeOf(x): the first place that has the key, or the length -/
theorem c_Th_placeOfN {l : Launch} {s0 : State} {D : va_G} {ca : Nat → ClassId} (C : hv_C l s0 D (hv_tys ca)) {w : hv_W} {a pa : Nat} {Mu : Nat → Prop} {ps : List gP} {lb : Nat} (x : Int32) (h0 : w a = some (.inr (5, [.ref pa, .ref lb]))) (hps : g_props ca Mu w pa ps) (hnp : ps.length ≤ 6)  :
    hv_Met l y_Th_placeOf [.code y_Th_placeOf b_Th_placeOf 3 (some .int)] rm_Th_placeOfN (hv_Pc s0 D w [.ref a, .int x]) (hv_Q s0 D (fun v w' => (∃ i, v = some (.int (nI i)) ∧ gk_fst (fun j => (ps.map (fun q => q.1)).getD j 0) ps.length x i) ∧ w' = w) (fun _ _ => False)) 0 0 (hv_A s0.heap.size) := by
  refine hv_enter C _ (by decide) (Nat.le_of_ble_eq_true rfl) ?_
  intro p e s m below meth c ls Q hQ hx hb hr hml hown hts hK hZ hlocks hname hout htr hP hl
  have hown : s.vm.findClass R_Th = some m.cls := hown
  have hS : va_S (hv_A s0.heap.size) s.heap s.heap [] := va_S.rf
  have hl : lv_has ls 3 [(0, .ref a), (1, .int x)] := hl
  obtain ⟨hpm, pf, hp, hpe⟩ := id hps
  refine lv_iconst (v := 0) hx hb d_Th_placeOf_0 (by decide) ?_
  refine lv_istore_n (lv' := [(2, .int 0), (0, .ref a), (1, .int x)]) hx hb d_Th_placeOf_1 rfl hl (by decide) rfl (fun ls hl => ?_)
  have lp : ∀ (n9 : Nat) (i : Nat), ps.length - i < n9 → (i ≤ ps.length) → (∀ j, j < i → ¬ (ps.map (fun q => q.1)).getD j 0 = x) → ∀ (H : Heap) (locs : List Loc) (ls : Array Slot), hv_P D classes s0.heap.size w H → va_S (hv_A s0.heap.size) s.heap H locs → lv_has ls 3 [(0, .ref a), (1, .int x), (2, .int (nI i))] → W p l e rm_Th_placeOfN s m ([.ref a, .int x] : List Value).toArray below meth c H locs 0 0 Q (F0 m 2 ls []) := by
    intro n9
    induction n9 with
    | zero =>
      intro i hn9
      exact absurd hn9 (Nat.not_lt_zero _)
    | succ n9 ih =>
      intro i hn9 hi hj H locs ls hP hS hl
      refine lv_iload_n hx hb d_Th_placeOf_2 rfl (lv_at hl 2 rfl) ?_
      refine lv_aload_n hx hb d_Th_placeOf_3 rfl (lv_at hl 0 rfl) ?_
      refine va_get (D := D) (ci := 5) (v := .ref pa) (C := R_Nd) (T := F_Nd) (N := 2) hx hb hts i_Nd hown hK (hv_one hP h0) 0 rfl rfl 0 (by decide) (hts _ k_Th_7) (fun _ h9 => h9) rfl d_Th_placeOf_4 ?_
      refine va_alen (v := nI ps.length) hx hb hK (hv_one hP hp) 0 4 rfl rfl rfl d_Th_placeOf_7 ?_
      refine lv_icmp_ge (tgt := 30) hx hb d_Th_placeOf_8 (by decide) (fun c8 => ?_) (fun c8 => ?_)
      · refine lv_iload_n hx hb d_Th_placeOf_30 rfl (lv_at hl 2 rfl) ?_
        exact hv_iret (v := nI i) hQ hx hb hr hZ hS hP hlocks d_Th_placeOf_31 (⟨⟨i, rfl, hi, hj, fun z => absurd (gk_ge c8 (by omega) (by omega)) (Nat.not_le.mpr z)⟩, rfl⟩)
      · have hlt : i < ps.length := gk_lt c8 (by omega) (by omega)
        refine lv_aload_n hx hb d_Th_placeOf_11 rfl (lv_at hl 0 rfl) ?_
        refine va_get (D := D) (ci := 5) (v := .ref pa) (C := R_Nd) (T := F_Nd) (N := 2) hx hb hts i_Nd hown hK (hv_one hP h0) 0 rfl rfl 0 (by decide) (hts _ k_Th_7) (fun _ h9 => h9) rfl d_Th_placeOf_12 ?_
        refine lv_iload_n hx hb d_Th_placeOf_15 rfl (lv_at hl 2 rfl) ?_
        refine va_aldq hx hb hK (hv_one hP hp) 0 4 rfl rfl (vp_in_nI hlt (by omega)) d_Th_placeOf_16 ?_
        rw [nI_clamp (n := i) (by omega)]
        obtain ⟨q, p, hq1, hp1, hqm, t, hq2, htx⟩ := hpe i hlt
        rw [hq1]
        show W _ _ _ _ _ _ _ _ _ _ _ _ _ _ _ (F0 m 17 ls [.ref q])
        refine va_get (D := D) (ci := 4) (v := .int p.1) (C := R_Pr) (T := F_Pr) (N := 4) hx hb hts i_Pr hown hK (hv_one hP hq2) 0 rfl rfl 0 (by decide) (hts _ k_Th_17) (fun _ h9 => h9) rfl d_Th_placeOf_17 ?_
        refine lv_iload_n hx hb d_Th_placeOf_20 rfl (lv_at hl 1 rfl) ?_
        refine lv_icmp_eq (tgt := 30) hx hb d_Th_placeOf_21 (by decide) (fun c21 => ?_) (fun c21 => ?_)
        · refine lv_iload_n hx hb d_Th_placeOf_30 rfl (lv_at hl 2 rfl) ?_
          exact hv_iret (v := nI i) hQ hx hb hr hZ hS hP hlocks d_Th_placeOf_31 (⟨⟨i, rfl, hi, hj, fun _ => (g_fst_key hp1).trans c21⟩, rfl⟩)
        · refine lv_iinc (v := (nI (i + 1))) (lv' := [(2, .int ((nI (i + 1)))), (0, .ref a), (1, .int x)]) hx hb d_Th_placeOf_24 hl (k := 2) rfl (nI_1 i) (by decide) rfl (fun ls hl => ?_)
          refine lv_goto (tgt := 2) hx hb d_Th_placeOf_27 (by decide) ?_
          exact ih (i + 1) (by omega) hlt (lt_s hj (by rw [g_fst_key hp1]; exact c21)) _ _ _ hP hS (lv_sub hl [1, 2, 0] rfl)
  exact lp _ 0 (Nat.lt_succ_self _) (Nat.zero_le _) (fun j q => absurd q (Nat.not_lt_zero _)) _ _ _ hP hS (lv_sub hl [1, 2, 0] rfl)

abbrev rm_Th_placeOfL : Room := { frames := 0, cells := 0, slots := 0, locals := 0 }
set_option maxHeartbeats 4000000 in
set_option maxRecDepth 100000 in
/-- placeOf(x): the first place that has the key, or the length -/
theorem c_Th_placeOfL {l : Launch} {s0 : State} {D : va_G} {ca : Nat → ClassId} (C : hv_C l s0 D (hv_tys ca)) {w : hv_W} {a pa : Nat} {Mu : Nat → Prop} {ps : List gP} {sa ea ty : Int32} (x : Int32) (h0 : w a = some (.inr (6, [.ref pa, .int sa, .int ea, .int ty]))) (hps : g_props ca Mu w pa ps) (hnp : ps.length ≤ 6)  :
    hv_Met l y_Th_placeOf [.code y_Th_placeOf b_Th_placeOf 3 (some .int)] rm_Th_placeOfL (hv_Pc s0 D w [.ref a, .int x]) (hv_Q s0 D (fun v w' => (∃ i, v = some (.int (nI i)) ∧ gk_fst (fun j => (ps.map (fun q => q.1)).getD j 0) ps.length x i) ∧ w' = w) (fun _ _ => False)) 0 0 (hv_A s0.heap.size) := by
  refine hv_enter C _ (by decide) (Nat.le_of_ble_eq_true rfl) ?_
  intro p e s m below meth c ls Q hQ hx hb hr hml hown hts hK hZ hlocks hname hout htr hP hl
  have hown : s.vm.findClass R_Th = some m.cls := hown
  have hS : va_S (hv_A s0.heap.size) s.heap s.heap [] := va_S.rf
  have hl : lv_has ls 3 [(0, .ref a), (1, .int x)] := hl
  obtain ⟨hpm, pf, hp, hpe⟩ := id hps
  refine lv_iconst (v := 0) hx hb d_Th_placeOf_0 (by decide) ?_
  refine lv_istore_n (lv' := [(2, .int 0), (0, .ref a), (1, .int x)]) hx hb d_Th_placeOf_1 rfl hl (by decide) rfl (fun ls hl => ?_)
  have lp : ∀ (n9 : Nat) (i : Nat), ps.length - i < n9 → (i ≤ ps.length) → (∀ j, j < i → ¬ (ps.map (fun q => q.1)).getD j 0 = x) → ∀ (H : Heap) (locs : List Loc) (ls : Array Slot), hv_P D classes s0.heap.size w H → va_S (hv_A s0.heap.size) s.heap H locs → lv_has ls 3 [(0, .ref a), (1, .int x), (2, .int (nI i))] → W p l e rm_Th_placeOfL s m ([.ref a, .int x] : List Value).toArray below meth c H locs 0 0 Q (F0 m 2 ls []) := by
    intro n9
    induction n9 with
    | zero =>
      intro i hn9
      exact absurd hn9 (Nat.not_lt_zero _)
    | succ n9 ih =>
      intro i hn9 hi hj H locs ls hP hS hl
      refine lv_iload_n hx hb d_Th_placeOf_2 rfl (lv_at hl 2 rfl) ?_
      refine lv_aload_n hx hb d_Th_placeOf_3 rfl (lv_at hl 0 rfl) ?_
      refine va_get (D := D) (ci := 6) (v := .ref pa) (C := R_Lk) (T := F_Lk) (N := 4) hx hb hts i_Lk hown hK (hv_one hP h0) 0 rfl rfl 0 (by decide) (hts _ k_Th_7) (fun _ h9 => h9) rfl d_Th_placeOf_4 ?_
      refine va_alen (v := nI ps.length) hx hb hK (hv_one hP hp) 0 4 rfl rfl rfl d_Th_placeOf_7 ?_
      refine lv_icmp_ge (tgt := 30) hx hb d_Th_placeOf_8 (by decide) (fun c8 => ?_) (fun c8 => ?_)
      · refine lv_iload_n hx hb d_Th_placeOf_30 rfl (lv_at hl 2 rfl) ?_
        exact hv_iret (v := nI i) hQ hx hb hr hZ hS hP hlocks d_Th_placeOf_31 (⟨⟨i, rfl, hi, hj, fun z => absurd (gk_ge c8 (by omega) (by omega)) (Nat.not_le.mpr z)⟩, rfl⟩)
      · have hlt : i < ps.length := gk_lt c8 (by omega) (by omega)
        refine lv_aload_n hx hb d_Th_placeOf_11 rfl (lv_at hl 0 rfl) ?_
        refine va_get (D := D) (ci := 6) (v := .ref pa) (C := R_Lk) (T := F_Lk) (N := 4) hx hb hts i_Lk hown hK (hv_one hP h0) 0 rfl rfl 0 (by decide) (hts _ k_Th_7) (fun _ h9 => h9) rfl d_Th_placeOf_12 ?_
        refine lv_iload_n hx hb d_Th_placeOf_15 rfl (lv_at hl 2 rfl) ?_
        refine va_aldq hx hb hK (hv_one hP hp) 0 4 rfl rfl (vp_in_nI hlt (by omega)) d_Th_placeOf_16 ?_
        rw [nI_clamp (n := i) (by omega)]
        obtain ⟨q, p, hq1, hp1, hqm, t, hq2, htx⟩ := hpe i hlt
        rw [hq1]
        show W _ _ _ _ _ _ _ _ _ _ _ _ _ _ _ (F0 m 17 ls [.ref q])
        refine va_get (D := D) (ci := 4) (v := .int p.1) (C := R_Pr) (T := F_Pr) (N := 4) hx hb hts i_Pr hown hK (hv_one hP hq2) 0 rfl rfl 0 (by decide) (hts _ k_Th_17) (fun _ h9 => h9) rfl d_Th_placeOf_17 ?_
        refine lv_iload_n hx hb d_Th_placeOf_20 rfl (lv_at hl 1 rfl) ?_
        refine lv_icmp_eq (tgt := 30) hx hb d_Th_placeOf_21 (by decide) (fun c21 => ?_) (fun c21 => ?_)
        · refine lv_iload_n hx hb d_Th_placeOf_30 rfl (lv_at hl 2 rfl) ?_
          exact hv_iret (v := nI i) hQ hx hb hr hZ hS hP hlocks d_Th_placeOf_31 (⟨⟨i, rfl, hi, hj, fun _ => (g_fst_key hp1).trans c21⟩, rfl⟩)
        · refine lv_iinc (v := (nI (i + 1))) (lv' := [(2, .int ((nI (i + 1)))), (0, .ref a), (1, .int x)]) hx hb d_Th_placeOf_24 hl (k := 2) rfl (nI_1 i) (by decide) rfl (fun ls hl => ?_)
          refine lv_goto (tgt := 2) hx hb d_Th_placeOf_27 (by decide) ?_
          exact ih (i + 1) (by omega) hlt (lt_s hj (by rw [g_fst_key hp1]; exact c21)) _ _ _ hP hS (lv_sub hl [1, 2, 0] rfl)
  exact lp _ 0 (Nat.lt_succ_self _) (Nat.zero_le _) (fun j q => absurd q (Nat.not_lt_zero _)) _ _ _ hP hS (lv_sub hl [1, 2, 0] rfl)

abbrev rm_Th_propertyOfN : Room := { frames := 1, cells := 0, slots := 0, locals := 22 }
set_option maxHeartbeats 4000000 in
set_option maxRecDepth 100000 in
/-- propertyOf(x) -/
theorem c_Th_propertyOfN {l : Launch} {s0 : State} {D : va_G} {ca : Nat → ClassId} (C : hv_C l s0 D (hv_tys ca)) {w : hv_W} {a pa : Nat} {Mu : Nat → Prop} {ps : List gP} {lb : Nat} (x : Int32) (h0 : w a = some (.inr (5, [.ref pa, .ref lb]))) (hps : g_props ca Mu w pa ps) (hnp : ps.length ≤ 6)  :
    hv_Met l y_Th_propertyOf [.code y_Th_propertyOf b_Th_propertyOf 3 (some (.object "GraphKeep$Property"))] rm_Th_propertyOfN (hv_Pc s0 D w [.ref a, .int x]) (hv_Q s0 D (fun v w' => (∃ r, v = some (va_rf r) ∧ g_lookq ca Mu w ps x r) ∧ w' = w) (fun _ _ => False)) 0 0 (hv_A s0.heap.size) := by
  refine hv_enter C _ (by decide) (Nat.le_of_ble_eq_true rfl) ?_
  intro p e s m below meth c ls Q hQ hx hb hr hml hown hts hK hZ hlocks hname hout htr hP hl
  have hown : s.vm.findClass R_Th = some m.cls := hown
  have hS : va_S (hv_A s0.heap.size) s.heap s.heap [] := va_S.rf
  have hl : lv_has ls 3 [(0, .ref a), (1, .int x)] := hl
  obtain ⟨hpm, pf, hp, hpe⟩ := id hps
  refine lv_aload_n hx hb d_Th_propertyOf_0 rfl (lv_at hl 0 rfl) ?_
  refine lv_iload_n hx hb d_Th_propertyOf_1 rfl (lv_at hl 1 rfl) ?_
  refine hv_call (hv_runV (As := [.int x]) (rest := []) (c_Th_placeOfN C x h0 hps hnp) (hv_cw C hZ kc_Th_placeOf kn_Th ⟨rfl, rfl, Nat.le_of_ble_eq_true rfl, Nat.le_of_ble_eq_true rfl⟩) hv_blind (hv_pre hZ hS hP) hx hml hb hown (hts _ k_Th_13) (hts _ ki_Th_placeOf) (hv_selP C hZ (x := y_Th_propertyOf) rfl (by decide) ksel_Nd_Th_propertyOf kpr_Th_placeOf ki_Th_placeOf) hy_Th_placeOf (hts _ kc_Th_placeOf) (va_recv hK (hv_one hP h0) (ci := 5) (q0 := 0) rfl rfl) rfl hl.1 rfl (lv_room (Nat.le_of_ble_eq_true rfl)) d_Th_propertyOf_2 ⟨Nat.le_of_ble_eq_true rfl, Nat.le_of_ble_eq_true rfl⟩) hZ hS (fun v9 w1 H locs q2 hP hS => ?_) (fun x9 w1 H locs q2 hP hS => q2.elim)
  obtain ⟨⟨i, hv9, hf⟩, hw9⟩ := q2
  subst hv9
  rw [hw9] at hP
  show W _ _ _ _ _ _ _ _ _ _ _ _ _ _ _ (F0 m 5 ls [.int (nI i)])
  have hi : i ≤ ps.length := hf.1
  refine lv_istore_n (lv' := [(2, .int (nI i)), (0, .ref a), (1, .int x)]) hx hb d_Th_propertyOf_5 rfl hl (by decide) rfl (fun ls hl => ?_)
  refine lv_iload_n hx hb d_Th_propertyOf_6 rfl (lv_at hl 0 rfl) ?_
  refine lv_aload_n hx hb d_Th_propertyOf_7 rfl (lv_at hl 1 rfl) ?_
  refine va_get (D := D) (ci := 5) (v := .ref pa) (C := R_Nd) (T := F_Nd) (N := 2) hx hb hts i_Nd hown hK (hv_one hP h0) 0 rfl rfl 0 (by decide) (hts _ k_Th_7) (fun _ h9 => h9) rfl d_Th_propertyOf_8 ?_
  refine va_alen (v := nI ps.length) hx hb hK (hv_one hP hp) 0 4 rfl rfl rfl d_Th_propertyOf_11 ?_
  refine lv_icmp_ge (tgt := 24) hx hb d_Th_propertyOf_12 (by decide) (fun c12 => ?_) (fun c12 => ?_)
  · refine lv_null hx hb d_Th_propertyOf_24 ?_
    exact hv_aret (v := none) hQ hx hb hr (Or.inl ⟨_, rfl⟩) hZ hS hP hlocks d_Th_propertyOf_25 (⟨⟨none, rfl, by show g_lookq ca Mu w ps x none; rw [g_lookq, g_look_no hf (Nat.not_lt.mpr (gk_ge c12 (by omega) (by omega)))]⟩, rfl⟩)
  · have hlt : i < ps.length := gk_lt c12 (by omega) (by omega)
    refine lv_aload_n hx hb d_Th_propertyOf_15 rfl (lv_at hl 1 rfl) ?_
    refine va_get (D := D) (ci := 5) (v := .ref pa) (C := R_Nd) (T := F_Nd) (N := 2) hx hb hts i_Nd hown hK (hv_one hP h0) 0 rfl rfl 0 (by decide) (hts _ k_Th_7) (fun _ h9 => h9) rfl d_Th_propertyOf_16 ?_
    refine lv_iload_n hx hb d_Th_propertyOf_19 rfl (lv_at hl 0 rfl) ?_
    refine va_aldq hx hb hK (hv_one hP hp) 0 4 rfl rfl (vp_in_nI hlt (by omega)) d_Th_propertyOf_20 ?_
    rw [nI_clamp (n := i) (by omega)]
    obtain ⟨q, p, hq1, hp1, hqm, t, hq2, htx⟩ := hpe i hlt
    rw [hq1]
    show W _ _ _ _ _ _ _ _ _ _ _ _ _ _ _ (F0 m 21 ls [.ref q])
    refine lv_goto (tgt := 25) hx hb d_Th_propertyOf_21 (by decide) ?_
    exact hv_aret (v := some q) hQ hx hb hr (Or.inl ⟨_, rfl⟩) hZ hS hP hlocks d_Th_propertyOf_25 (⟨⟨some q, rfl, by show g_lookq ca Mu w ps x (some q); rw [g_lookq, g_look_of hf hlt hp1]; exact ⟨q, rfl, hqm, t, hq2, htx⟩⟩, rfl⟩)

abbrev rm_Th_propertyOfL : Room := { frames := 1, cells := 0, slots := 0, locals := 22 }
set_option maxHeartbeats 4000000 in
set_option maxRecDepth 100000 in
/-- propertyOf(x) -/
theorem c_Th_propertyOfL {l : Launch} {s0 : State} {D : va_G} {ca : Nat → ClassId} (C : hv_C l s0 D (hv_tys ca)) {w : hv_W} {a pa : Nat} {Mu : Nat → Prop} {ps : List gP} {sa ea ty : Int32} (x : Int32) (h0 : w a = some (.inr (6, [.ref pa, .int sa, .int ea, .int ty]))) (hps : g_props ca Mu w pa ps) (hnp : ps.length ≤ 6)  :
    hv_Met l y_Th_propertyOf [.code y_Th_propertyOf b_Th_propertyOf 3 (some (.object "GraphKeep$Property"))] rm_Th_propertyOfL (hv_Pc s0 D w [.ref a, .int x]) (hv_Q s0 D (fun v w' => (∃ r, v = some (va_rf r) ∧ g_lookq ca Mu w ps x r) ∧ w' = w) (fun _ _ => False)) 0 0 (hv_A s0.heap.size) := by
  refine hv_enter C _ (by decide) (Nat.le_of_ble_eq_true rfl) ?_
  intro p e s m below meth c ls Q hQ hx hb hr hml hown hts hK hZ hlocks hname hout htr hP hl
  have hown : s.vm.findClass R_Th = some m.cls := hown
  have hS : va_S (hv_A s0.heap.size) s.heap s.heap [] := va_S.rf
  have hl : lv_has ls 3 [(0, .ref a), (1, .int x)] := hl
  obtain ⟨hpm, pf, hp, hpe⟩ := id hps
  refine lv_aload_n hx hb d_Th_propertyOf_0 rfl (lv_at hl 0 rfl) ?_
  refine lv_iload_n hx hb d_Th_propertyOf_1 rfl (lv_at hl 1 rfl) ?_
  refine hv_call (hv_runV (As := [.int x]) (rest := []) (c_Th_placeOfL C x h0 hps hnp) (hv_cw C hZ kc_Th_placeOf kn_Th ⟨rfl, rfl, Nat.le_of_ble_eq_true rfl, Nat.le_of_ble_eq_true rfl⟩) hv_blind (hv_pre hZ hS hP) hx hml hb hown (hts _ k_Th_13) (hts _ ki_Th_placeOf) (hv_selP C hZ (x := y_Th_propertyOf) rfl (by decide) ksel_Lk_Th_propertyOf kpr_Th_placeOf ki_Th_placeOf) hy_Th_placeOf (hts _ kc_Th_placeOf) (va_recv hK (hv_one hP h0) (ci := 6) (q0 := 0) rfl rfl) rfl hl.1 rfl (lv_room (Nat.le_of_ble_eq_true rfl)) d_Th_propertyOf_2 ⟨Nat.le_of_ble_eq_true rfl, Nat.le_of_ble_eq_true rfl⟩) hZ hS (fun v9 w1 H locs q2 hP hS => ?_) (fun x9 w1 H locs q2 hP hS => q2.elim)
  obtain ⟨⟨i, hv9, hf⟩, hw9⟩ := q2
  subst hv9
  rw [hw9] at hP
  show W _ _ _ _ _ _ _ _ _ _ _ _ _ _ _ (F0 m 5 ls [.int (nI i)])
  have hi : i ≤ ps.length := hf.1
  refine lv_istore_n (lv' := [(2, .int (nI i)), (0, .ref a), (1, .int x)]) hx hb d_Th_propertyOf_5 rfl hl (by decide) rfl (fun ls hl => ?_)
  refine lv_iload_n hx hb d_Th_propertyOf_6 rfl (lv_at hl 0 rfl) ?_
  refine lv_aload_n hx hb d_Th_propertyOf_7 rfl (lv_at hl 1 rfl) ?_
  refine va_get (D := D) (ci := 6) (v := .ref pa) (C := R_Lk) (T := F_Lk) (N := 4) hx hb hts i_Lk hown hK (hv_one hP h0) 0 rfl rfl 0 (by decide) (hts _ k_Th_7) (fun _ h9 => h9) rfl d_Th_propertyOf_8 ?_
  refine va_alen (v := nI ps.length) hx hb hK (hv_one hP hp) 0 4 rfl rfl rfl d_Th_propertyOf_11 ?_
  refine lv_icmp_ge (tgt := 24) hx hb d_Th_propertyOf_12 (by decide) (fun c12 => ?_) (fun c12 => ?_)
  · refine lv_null hx hb d_Th_propertyOf_24 ?_
    exact hv_aret (v := none) hQ hx hb hr (Or.inl ⟨_, rfl⟩) hZ hS hP hlocks d_Th_propertyOf_25 (⟨⟨none, rfl, by show g_lookq ca Mu w ps x none; rw [g_lookq, g_look_no hf (Nat.not_lt.mpr (gk_ge c12 (by omega) (by omega)))]⟩, rfl⟩)
  · have hlt : i < ps.length := gk_lt c12 (by omega) (by omega)
    refine lv_aload_n hx hb d_Th_propertyOf_15 rfl (lv_at hl 1 rfl) ?_
    refine va_get (D := D) (ci := 6) (v := .ref pa) (C := R_Lk) (T := F_Lk) (N := 4) hx hb hts i_Lk hown hK (hv_one hP h0) 0 rfl rfl 0 (by decide) (hts _ k_Th_7) (fun _ h9 => h9) rfl d_Th_propertyOf_16 ?_
    refine lv_iload_n hx hb d_Th_propertyOf_19 rfl (lv_at hl 0 rfl) ?_
    refine va_aldq hx hb hK (hv_one hP hp) 0 4 rfl rfl (vp_in_nI hlt (by omega)) d_Th_propertyOf_20 ?_
    rw [nI_clamp (n := i) (by omega)]
    obtain ⟨q, p, hq1, hp1, hqm, t, hq2, htx⟩ := hpe i hlt
    rw [hq1]
    show W _ _ _ _ _ _ _ _ _ _ _ _ _ _ _ (F0 m 21 ls [.ref q])
    refine lv_goto (tgt := 25) hx hb d_Th_propertyOf_21 (by decide) ?_
    exact hv_aret (v := some q) hQ hx hb hr (Or.inl ⟨_, rfl⟩) hZ hS hP hlocks d_Th_propertyOf_25 (⟨⟨some q, rfl, by show g_lookq ca Mu w ps x (some q); rw [g_lookq, g_look_of hf hlt hp1]; exact ⟨q, rfl, hqm, t, hq2, htx⟩⟩, rfl⟩)

abbrev rm_Nd_placeOfLabel : Room := { frames := 0, cells := 0, slots := 0, locals := 0 }
set_option maxHeartbeats 4000000 in
set_option maxRecDepth 100000 in
/-- placeOfLabel(x) -/
theorem c_Nd_placeOfLabel {l : Launch} {s0 : State} {D : va_G} {ca : Nat → ClassId} (C : hv_C l s0 D (hv_tys ca)) {w : hv_W} {a pa lb : Nat} {Mu : Nat → Prop} {xs : List Int32} (x : Int32) (h0 : w a = some (.inr (5, [.ref pa, .ref lb]))) (hls : g_int ca Mu w lb xs) (hnl : xs.length ≤ 4)  :
    hv_Met l y_Nd_placeOfLabel [.code y_Nd_placeOfLabel b_Nd_placeOfLabel 3 (some .int)] rm_Nd_placeOfLabel (hv_Pc s0 D w [.ref a, .int x]) (hv_Q s0 D (fun v w' => (∃ i, v = some (.int (nI i)) ∧ gk_fst (fun j => xs.getD j 0) xs.length x i) ∧ w' = w) (fun _ _ => False)) 0 0 (hv_A s0.heap.size) := by
  refine hv_enter C _ (by decide) (Nat.le_of_ble_eq_true rfl) ?_
  intro p e s m below meth c ls Q hQ hx hb hr hml hown hts hK hZ hlocks hname hout htr hP hl
  have hown : s.vm.findClass R_Nd = some m.cls := hown
  have hS : va_S (hv_A s0.heap.size) s.heap s.heap [] := va_S.rf
  have hl : lv_has ls 3 [(0, .ref a), (1, .int x)] := hl
  obtain ⟨hlm, lf, hl0, hle⟩ := id hls
  refine lv_iconst (v := 0) hx hb d_Nd_placeOfLabel_0 (by decide) ?_
  refine lv_istore_n (lv' := [(2, .int 0), (0, .ref a), (1, .int x)]) hx hb d_Nd_placeOfLabel_1 rfl hl (by decide) rfl (fun ls hl => ?_)
  have lp : ∀ (n9 : Nat) (i : Nat), xs.length - i < n9 → (i ≤ xs.length) → (∀ j, j < i → ¬ xs.getD j 0 = x) → ∀ (H : Heap) (locs : List Loc) (ls : Array Slot), hv_P D classes s0.heap.size w H → va_S (hv_A s0.heap.size) s.heap H locs → lv_has ls 3 [(0, .ref a), (1, .int x), (2, .int (nI i))] → W p l e rm_Nd_placeOfLabel s m ([.ref a, .int x] : List Value).toArray below meth c H locs 0 0 Q (F0 m 2 ls []) := by
    intro n9
    induction n9 with
    | zero =>
      intro i hn9
      exact absurd hn9 (Nat.not_lt_zero _)
    | succ n9 ih =>
      intro i hn9 hi hj H locs ls hP hS hl
      refine lv_iload_n hx hb d_Nd_placeOfLabel_2 rfl (lv_at hl 2 rfl) ?_
      refine lv_aload_n hx hb d_Nd_placeOfLabel_3 rfl (lv_at hl 0 rfl) ?_
      refine va_get (D := D) (ci := 5) (v := .ref lb) (C := R_Nd) (T := F_Nd) (N := 2) hx hb hts i_Nd hown hK (hv_one hP h0) 0 rfl rfl 1 (by decide) (hts _ k_Nd_7) (fun _ h9 => h9) rfl d_Nd_placeOfLabel_4 ?_
      refine va_alen (v := nI xs.length) hx hb hK (hv_one hP hl0) 0 0 rfl rfl rfl d_Nd_placeOfLabel_7 ?_
      refine lv_icmp_ge (tgt := 27) hx hb d_Nd_placeOfLabel_8 (by decide) (fun c8 => ?_) (fun c8 => ?_)
      · refine lv_iload_n hx hb d_Nd_placeOfLabel_27 rfl (lv_at hl 2 rfl) ?_
        exact hv_iret (v := nI i) hQ hx hb hr hZ hS hP hlocks d_Nd_placeOfLabel_28 (⟨⟨i, rfl, hi, hj, fun z => absurd (gk_ge c8 (by omega) (by omega)) (Nat.not_le.mpr z)⟩, rfl⟩)
      · have hlt : i < xs.length := gk_lt c8 (by omega) (by omega)
        refine lv_aload_n hx hb d_Nd_placeOfLabel_11 rfl (lv_at hl 0 rfl) ?_
        refine va_get (D := D) (ci := 5) (v := .ref lb) (C := R_Nd) (T := F_Nd) (N := 2) hx hb hts i_Nd hown hK (hv_one hP h0) 0 rfl rfl 1 (by decide) (hts _ k_Nd_7) (fun _ h9 => h9) rfl d_Nd_placeOfLabel_12 ?_
        refine lv_iload_n hx hb d_Nd_placeOfLabel_15 rfl (lv_at hl 2 rfl) ?_
        refine va_iald hx hb hK (hv_one hP hl0) 0 0 rfl rfl (vp_in_nI hlt (by omega)) d_Nd_placeOfLabel_16 ?_
        rw [nI_clamp (n := i) (by omega)]
        refine lv_iload_n hx hb d_Nd_placeOfLabel_17 rfl (lv_at hl 1 rfl) ?_
        refine lv_icmp_eq (tgt := 27) hx hb d_Nd_placeOfLabel_18 (by decide) (fun c18 => ?_) (fun c18 => ?_)
        · refine lv_iload_n hx hb d_Nd_placeOfLabel_27 rfl (lv_at hl 2 rfl) ?_
          exact hv_iret (v := nI i) hQ hx hb hr hZ hS hP hlocks d_Nd_placeOfLabel_28 (⟨⟨i, rfl, hi, hj, fun _ => (hle i hlt).symm.trans c18⟩, rfl⟩)
        · refine lv_iinc (v := (nI (i + 1))) (lv' := [(2, .int ((nI (i + 1)))), (0, .ref a), (1, .int x)]) hx hb d_Nd_placeOfLabel_21 hl (k := 2) rfl (nI_1 i) (by decide) rfl (fun ls hl => ?_)
          refine lv_goto (tgt := 2) hx hb d_Nd_placeOfLabel_24 (by decide) ?_
          exact ih (i + 1) (by omega) hlt (lt_s hj (by rw [← hle i hlt]; exact c18)) _ _ _ hP hS (lv_sub hl [1, 2, 0] rfl)
  exact lp _ 0 (Nat.lt_succ_self _) (Nat.zero_le _) (fun j q => absurd q (Nat.not_lt_zero _)) _ _ _ hP hS (lv_sub hl [1, 2, 0] rfl)

abbrev rm_Nd_isLabelled : Room := { frames := 1, cells := 0, slots := 0, locals := 22 }
set_option maxHeartbeats 4000000 in
set_option maxRecDepth 100000 in
/-- isLabelled(x) -/
theorem c_Nd_isLabelled {l : Launch} {s0 : State} {D : va_G} {ca : Nat → ClassId} (C : hv_C l s0 D (hv_tys ca)) {w : hv_W} {a pa lb : Nat} {Mu : Nat → Prop} {xs : List Int32} (x : Int32) (h0 : w a = some (.inr (5, [.ref pa, .ref lb]))) (hls : g_int ca Mu w lb xs) (hnl : xs.length ≤ 4)  :
    hv_Met l y_Nd_isLabelled [.code y_Nd_isLabelled b_Nd_isLabelled 2 (some .boolean)] rm_Nd_isLabelled (hv_Pc s0 D w [.ref a, .int x]) (hv_Q s0 D (fun v w' => v = some (.int (if x ∈ xs then 1 else 0)) ∧ w' = w) (fun _ _ => False)) 0 0 (hv_A s0.heap.size) := by
  refine hv_enter C _ (by decide) (Nat.le_of_ble_eq_true rfl) ?_
  intro p e s m below meth c ls Q hQ hx hb hr hml hown hts hK hZ hlocks hname hout htr hP hl
  have hown : s.vm.findClass R_Nd = some m.cls := hown
  have hS : va_S (hv_A s0.heap.size) s.heap s.heap [] := va_S.rf
  have hl : lv_has ls 2 [(0, .ref a), (1, .int x)] := hl
  obtain ⟨hlm, lf, hl0, hle⟩ := id hls
  refine lv_aload_n hx hb d_Nd_isLabelled_0 rfl (lv_at hl 0 rfl) ?_
  refine lv_iload_n hx hb d_Nd_isLabelled_1 rfl (lv_at hl 1 rfl) ?_
  refine hv_call (hv_runV (As := [.int x]) (rest := []) (c_Nd_placeOfLabel C x h0 hls hnl) (hv_cw C hZ kc_Nd_placeOfLabel kn_Nd ⟨rfl, rfl, Nat.le_of_ble_eq_true rfl, Nat.le_of_ble_eq_true rfl⟩) hv_blind (hv_pre hZ hS hP) hx hml hb hown (hts _ k_Nd_13) (hts _ ki_Nd_placeOfLabel) (hts _ ksel_Nd_Nd_placeOfLabel) hy_Nd_placeOfLabel (hts _ kc_Nd_placeOfLabel) (va_recv hK (hv_one hP h0) (ci := 5) (q0 := 0) rfl rfl) rfl hl.1 rfl (lv_room (Nat.le_of_ble_eq_true rfl)) d_Nd_isLabelled_2 ⟨Nat.le_of_ble_eq_true rfl, Nat.le_of_ble_eq_true rfl⟩) hZ hS (fun v9 w1 H locs q2 hP hS => ?_) (fun x9 w1 H locs q2 hP hS => q2.elim)
  obtain ⟨⟨i, hv9, hf⟩, hw9⟩ := q2
  subst hv9
  rw [hw9] at hP
  show W _ _ _ _ _ _ _ _ _ _ _ _ _ _ _ (F0 m 5 ls [.int (nI i)])
  have hi : i ≤ xs.length := hf.1
  refine lv_aload_n hx hb d_Nd_isLabelled_5 rfl (lv_at hl 0 rfl) ?_
  refine va_get (D := D) (ci := 5) (v := .ref lb) (C := R_Nd) (T := F_Nd) (N := 2) hx hb hts i_Nd hown hK (hv_one hP h0) 0 rfl rfl 1 (by decide) (hts _ k_Nd_7) (fun _ h9 => h9) rfl d_Nd_isLabelled_6 ?_
  refine va_alen (v := nI xs.length) hx hb hK (hv_one hP hl0) 0 0 rfl rfl rfl d_Nd_isLabelled_9 ?_
  refine lv_icmp_ge (tgt := 17) hx hb d_Nd_isLabelled_10 (by decide) (fun c10 => ?_) (fun c10 => ?_)
  · refine lv_iconst (v := 0) hx hb d_Nd_isLabelled_17 (by decide) ?_
    exact hv_zret (v := 0) hQ hx hb hr (by decide) hZ hS hP hlocks d_Nd_isLabelled_18 (⟨by rw [if_neg (fun q => Nat.not_lt.mpr (gk_ge c10 (by omega) (by omega)) ((g_fst_mem hf).mpr q))], rfl⟩)
  · refine lv_iconst (v := 1) hx hb d_Nd_isLabelled_13 (by decide) ?_
    refine lv_goto (tgt := 18) hx hb d_Nd_isLabelled_14 (by decide) ?_
    exact hv_zret (v := 1) hQ hx hb hr (by decide) hZ hS hP hlocks d_Nd_isLabelled_18 (⟨by rw [if_pos ((g_fst_mem hf).mp (gk_lt c10 (by omega) (by omega)))], rfl⟩)

abbrev rm_Nd_withLabel : Room := { frames := 3, cells := 2, slots := 6, locals := 55 }
set_option maxHeartbeats 4000000 in
set_option maxRecDepth 100000 in
/-- withLabel(x): a new node with one label more -/
theorem c_Nd_withLabel {l : Launch} {s0 : State} {D : va_G} {ca : Nat → ClassId} (C : hv_C l s0 D (hv_tys ca)) {w : hv_W} {a pa lb : Nat} {Mu : Nat → Prop} {xs : List Int32} {ps : List gP} (x : Int32) (hMu : ∀ b, Mu b → w b ≠ none) (h0 : w a = some (.inr (5, [.ref pa, .ref lb]))) (hls : g_int ca Mu w lb xs) (hps : g_props ca Mu w pa ps) (hnl : xs.length ≤ 3)  :
    hv_Met l y_Nd_withLabel [.code y_Nd_withLabel b_Nd_withLabel 4 (some (.object "GraphKeep$Node"))] rm_Nd_withLabel (hv_Pc s0 D w [.ref a, .int x]) (hv_Q s0 D (fun v w' => ∃ q, v = some (va_rf (some q)) ∧ w q = none ∧ g_node ca Mu w' q (xs ++ [x], ps) ∧ g_grow w w') (fun _ _ => False)) 2 6 (hv_A s0.heap.size) := by
  refine hv_enter C _ (by decide) (Nat.le_of_ble_eq_true rfl) ?_
  intro p e s m below meth c ls Q hQ hx hb hr hml hown hts hK hZ hlocks hname hout htr hP hl
  have hown : s.vm.findClass R_Nd = some m.cls := hown
  have hS : va_S (hv_A s0.heap.size) s.heap s.heap [] := va_S.rf
  have hl : lv_has ls 4 [(0, .ref a), (1, .int x)] := hl
  obtain ⟨hlm, lf, hl0, hle⟩ := id hls
  refine lv_aload_n hx hb d_Nd_withLabel_0 rfl (lv_at hl 0 rfl) ?_
  refine va_get (D := D) (ci := 5) (v := .ref lb) (C := R_Nd) (T := F_Nd) (N := 2) hx hb hts i_Nd hown hK (hv_one hP h0) 0 rfl rfl 1 (by decide) (hts _ k_Nd_7) (fun _ h9 => h9) rfl d_Nd_withLabel_1 ?_
  refine va_alen (v := nI xs.length) hx hb hK (hv_one hP hl0) 0 0 rfl rfl rfl d_Nd_withLabel_4 ?_
  refine lv_iconst (v := 1) hx hb d_Nd_withLabel_5 (by decide) ?_
  refine lv_iadd hx hb d_Nd_withLabel_6 ?_
  refine lv_topi (fun v9 e9 => ?_)
  have e9 : v9 = nI (xs.length + 1) := e9.trans (nI_1 _)
  subst e9
  show W _ _ _ _ _ _ _ _ _ _ _ _ _ _ _ (F0 m 7 ls [.int (nI (xs.length + 1))])
  refine hv_newa (a0 := (xs.length + 1, .inl (fun _ => 0))) hx hb (show (Cond.arrayClass (newarray.typeOf .int)).before _ s = true from hts _ ka_int) rfl hK hP hS hZ.2.1 0 rfl (N' := xs.length + 1) (fun _ => rfl) (nI_pos (by omega)) (nI_clamp (by omega)) (gk_bytes (Nat.le_trans (Nat.mul_le_mul_left _ (by decide : _ ≤ 8)) (by omega))) (Nat.le_of_ble_eq_true rfl) (by show _ + _ ≤ 6; omega) d_Nd_withLabel_7 (fun q1 H hq2 hP hS => ?_)
  obtain ⟨w3, ew3⟩ : ∃ z9 : hv_W, z9 = va_up w q1 (some (.inl (ca 0, xs.length + 1, .inl (fun _ => 0)))) := ⟨_, rfl⟩
  have hP : hv_P D classes s0.heap.size w3 H := by rw [ew3]; exact hP
  have h4 : w3 a = some (.inr (5, [.ref pa, .ref lb])) := by rw [ew3]; exact hv_up_f hq2 h0
  have h5 : w3 lb = some (.inl (ca 0, xs.length, .inl lf)) := by rw [ew3]; exact hv_up_f hq2 hl0
  have h6 : w3 q1 = some (.inl (ca 0, xs.length + 1, .inl (fun _ => 0))) := by rw [ew3]; exact hv_up_s
  refine W.widen (k := 1) (n := 4) (by omega) (by omega) ?_
  show W _ _ _ _ _ _ _ _ _ _ _ _ _ _ _ (F0 m 9 ls [.ref q1])
  have hg0 : g_grow w w3 := by rw [ew3]; exact g_grow.new hq2
  refine lv_astore_n (lv' := [(2, .ref q1), (0, .ref a), (1, .int x)]) hx hb d_Nd_withLabel_9 rfl hl (by decide) rfl (fun ls hl => ?_)
  refine lv_iconst (v := 0) hx hb d_Nd_withLabel_10 (by decide) ?_
  refine lv_istore_n (lv' := [(3, .int 0), (2, .ref q1), (0, .ref a), (1, .int x)]) hx hb d_Nd_withLabel_11 rfl hl (by decide) rfl (fun ls hl => ?_)
  have lp : ∀ (n9 : Nat) (i : Nat) (g : Nat → Int32) (z : hv_W), xs.length - i < n9 → (i ≤ xs.length) → (z q1 = some (.inl (ca 0, xs.length + 1, .inl g))) → (g_grow w z) → (∀ j, j < i → g j = lf j) → ∀ (H : Heap) (locs : List Loc) (ls : Array Slot), hv_P D classes s0.heap.size z H → va_S (hv_A s0.heap.size) s.heap H locs → lv_has ls 4 [(0, .ref a), (1, .int x), (2, .ref q1), (3, .int (nI i))] → W p l e rm_Nd_withLabel s m ([.ref a, .int x] : List Value).toArray below meth c H locs 1 4 Q (F0 m 12 ls []) := by
    intro n9
    induction n9 with
    | zero =>
      intro i g z hn9
      exact absurd hn9 (Nat.not_lt_zero _)
    | succ n9 ih =>
      intro i g z hn9 hi hz hg hj H locs ls hP hS hl
      refine lv_iload_n hx hb d_Nd_withLabel_12 rfl (lv_at hl 3 rfl) ?_
      refine lv_aload_n hx hb d_Nd_withLabel_13 rfl (lv_at hl 0 rfl) ?_
      refine va_get (D := D) (ci := 5) (v := .ref lb) (C := R_Nd) (T := F_Nd) (N := 2) hx hb hts i_Nd hown hK (hv_one hP (hg _ _ h0)) 0 rfl rfl 1 (by decide) (hts _ k_Nd_7) (fun _ h9 => h9) rfl d_Nd_withLabel_14 ?_
      refine va_alen (v := nI xs.length) hx hb hK (hv_one hP (hg _ _ hl0)) 0 0 rfl rfl rfl d_Nd_withLabel_17 ?_
      refine lv_icmp_ge (tgt := 36) hx hb d_Nd_withLabel_18 (by decide) (fun c18 => ?_) (fun c18 => ?_)
      · have hi2 : i = xs.length := Nat.le_antisymm hi (gk_ge c18 (by omega) (by omega))
        refine lv_aload_n hx hb d_Nd_withLabel_36 rfl (lv_at hl 2 rfl) ?_
        refine lv_aload_n hx hb d_Nd_withLabel_37 rfl (lv_at hl 0 rfl) ?_
        refine va_get (D := D) (ci := 5) (v := .ref lb) (C := R_Nd) (T := F_Nd) (N := 2) hx hb hts i_Nd hown hK (hv_one hP (hg _ _ h0)) 0 rfl rfl 1 (by decide) (hts _ k_Nd_7) (fun _ h9 => h9) rfl d_Nd_withLabel_38 ?_
        refine va_alen (v := nI xs.length) hx hb hK (hv_one hP (hg _ _ hl0)) 0 0 rfl rfl rfl d_Nd_withLabel_41 ?_
        refine lv_iload_n hx hb d_Nd_withLabel_42 rfl (lv_at hl 1 rfl) ?_
        refine hv_iast hx hb hK hP hS 0 hz rfl (vp_in_nI (Nat.lt_succ_self _) (by omega)) d_Nd_withLabel_43 (fun H locs hP hS => ?_)
        rw [nI_clamp (n := xs.length) (by omega)] at hP
        obtain ⟨w7, ew7⟩ : ∃ z9 : hv_W, z9 = va_up z q1 (some (.inl (ca 0, xs.length + 1, .inl (upd g xs.length x)))) := ⟨_, rfl⟩
        have hP : hv_P D classes s0.heap.size w7 H := by rw [ew7]; exact hP
        have h8 : w7 a = some (.inr (5, [.ref pa, .ref lb])) := by rw [ew7]; exact hv_up_k (hg _ _ h0) (hv_ne_f hq2 h0)
        have h9 : w7 lb = some (.inl (ca 0, xs.length, .inl lf)) := by rw [ew7]; exact hv_up_k (hg _ _ hl0) (hv_ne_f hq2 hl0)
        have h10 : w7 q1 = some (.inl (ca 0, xs.length + 1, .inl (upd g xs.length x))) := by rw [ew7]; exact hv_up_s
        have hg1 : g_grow w w7 := g_grow.upd hq2 hg ⟨h10, fun b hb => by rw [ew7, hv_up_n hb]⟩
        refine hv_new (ci := 5) (fs := [.null, .null]) (C := R_Nd) (T := F_Nd) (N := 2) hx hb hts i_Nd t_Nd t_Nd_ok hown (hts _ k_Nd_8) (hts _ kin_Nd) (hts _ kn_Nd) hK hP hS hZ.2.1 rfl z_Nd (Nat.le_of_ble_eq_true rfl) (Nat.le_of_ble_eq_true rfl) d_Nd_withLabel_44 (fun q11 H hq12 hP hS => ?_)
        obtain ⟨w13, ew13⟩ : ∃ z9 : hv_W, z9 = va_up w7 q11 (some (.inr (5, [.null, .null]))) := ⟨_, rfl⟩
        have hP : hv_P D classes s0.heap.size w13 H := by rw [ew13]; exact hP
        have h14 : w13 a = some (.inr (5, [.ref pa, .ref lb])) := by rw [ew13]; exact hv_up_f hq12 h8
        have h15 : w13 lb = some (.inl (ca 0, xs.length, .inl lf)) := by rw [ew13]; exact hv_up_f hq12 h9
        have h16 : w13 q1 = some (.inl (ca 0, xs.length + 1, .inl (upd g xs.length x))) := by rw [ew13]; exact hv_up_f hq12 h10
        have h17 : w13 q11 = some (.inr (5, [.null, .null])) := by rw [ew13]; exact hv_up_s
        refine W.widen (k := 2) (n := 6) (by omega) (by omega) ?_
        show W _ _ _ _ _ _ _ _ _ _ _ _ _ _ _ (F0 m 47 ls [.ref q11])
        have hg2 : g_grow w w13 := hg1.trans (by rw [ew13]; exact g_grow.new hq12)
        have hn2 : w q11 = none := hg1.none hq12
        refine lv_dup hx hb d_Nd_withLabel_47 rfl ?_
        refine lv_aload_n hx hb d_Nd_withLabel_48 rfl (lv_at hl 2 rfl) ?_
        refine lv_aload_n hx hb d_Nd_withLabel_49 rfl (lv_at hl 0 rfl) ?_
        refine va_get (D := D) (ci := 5) (v := .ref pa) (C := R_Nd) (T := F_Nd) (N := 2) hx hb hts i_Nd hown hK (hv_one hP h14) 0 rfl rfl 0 (by decide) (hts _ k_Nd_17) (u_same (hts _ ks_Nd_properties)) rfl d_Nd_withLabel_50 ?_
        refine hv_call (hv_runI (As := [.ref q1, .ref pa]) (rest := [.ref q11]) (c_Nd_init C h17) (hv_cw C hZ kc_Nd_init kn_Nd ⟨rfl, rfl, Nat.le_of_ble_eq_true rfl, Nat.le_of_ble_eq_true rfl⟩) hv_blind (hv_pre hZ hS hP) hx hml hb hown (hts _ k_Nd_21) (hts _ ki_Nd_init) rfl hy_Nd_init (hts _ kc_Nd_init) rfl hl.1 rfl (lv_room (Nat.le_of_ble_eq_true rfl)) d_Nd_withLabel_53 ⟨Nat.le_of_ble_eq_true rfl, Nat.le_of_ble_eq_true rfl⟩) hZ hS (fun v9 w18 H locs q19 hP hS => ?_) (fun x9 w18 H locs q19 hP hS => q19.elim)
        obtain ⟨hv9, q19u⟩ := q19
        subst hv9
        show W _ _ _ _ _ _ _ _ _ _ _ _ _ _ _ (F0 m 56 ls [.ref q11])
        have hg3 : g_grow w w18 := g_grow.upd hn2 hg2 q19u
        exact hv_aret (v := some q11) hQ hx hb hr (Or.inl ⟨_, rfl⟩) hZ hS hP hlocks d_Nd_withLabel_56 (⟨q11, rfl, hn2, ⟨fun hm => hMu _ hm hn2, pa, q1, q19u.1, ⟨fun hm => hMu _ hm hq2, _, by rw [List.length_append]; exact (q19u.k h16 (hv_ne h16 h17 (by simp [hv_tag]))), g_app (fun j hj9 => hj j (by rw [hi2]; exact hj9)) hle⟩, hps.k hg3.keep⟩, hg3⟩)
      · have hlt : i < xs.length := gk_lt c18 (by omega) (by omega)
        refine lv_aload_n hx hb d_Nd_withLabel_21 rfl (lv_at hl 2 rfl) ?_
        refine lv_iload_n hx hb d_Nd_withLabel_22 rfl (lv_at hl 3 rfl) ?_
        refine lv_aload_n hx hb d_Nd_withLabel_23 rfl (lv_at hl 0 rfl) ?_
        refine va_get (D := D) (ci := 5) (v := .ref lb) (C := R_Nd) (T := F_Nd) (N := 2) hx hb hts i_Nd hown hK (hv_one hP (hg _ _ h0)) 0 rfl rfl 1 (by decide) (hts _ k_Nd_7) (fun _ h9 => h9) rfl d_Nd_withLabel_24 ?_
        refine lv_iload_n hx hb d_Nd_withLabel_27 rfl (lv_at hl 3 rfl) ?_
        refine va_iald hx hb hK (hv_one hP (hg _ _ hl0)) 0 0 rfl rfl (vp_in_nI hlt (by omega)) d_Nd_withLabel_28 ?_
        rw [nI_clamp (n := i) (by omega)]
        refine hv_iast hx hb hK hP hS 0 hz rfl (vp_in_nI (Nat.lt_succ_of_lt hlt) (by omega)) d_Nd_withLabel_29 (fun H locs hP hS => ?_)
        rw [nI_clamp (n := i) (by omega)] at hP
        obtain ⟨w20, ew20⟩ : ∃ z9 : hv_W, z9 = va_up z q1 (some (.inl (ca 0, xs.length + 1, .inl (upd g i ((lf i)))))) := ⟨_, rfl⟩
        have hP : hv_P D classes s0.heap.size w20 H := by rw [ew20]; exact hP
        have h21 : w20 a = some (.inr (5, [.ref pa, .ref lb])) := by rw [ew20]; exact hv_up_k (hg _ _ h0) (hv_ne_f hq2 h0)
        have h22 : w20 lb = some (.inl (ca 0, xs.length, .inl lf)) := by rw [ew20]; exact hv_up_k (hg _ _ hl0) (hv_ne_f hq2 hl0)
        have h23 : w20 q1 = some (.inl (ca 0, xs.length + 1, .inl (upd g i ((lf i))))) := by rw [ew20]; exact hv_up_s
        refine lv_iinc (v := (nI (i + 1))) (lv' := [(3, .int ((nI (i + 1)))), (0, .ref a), (1, .int x), (2, .ref q1)]) hx hb d_Nd_withLabel_30 hl (k := 3) rfl (nI_1 i) (by decide) rfl (fun ls hl => ?_)
        refine lv_goto (tgt := 12) hx hb d_Nd_withLabel_33 (by decide) ?_
        exact ih (i + 1) (upd g i ((lf i))) w20 (by omega) hlt h23 (g_grow.upd hq2 hg ⟨h23, fun b hb => by rw [ew20, hv_up_n hb]⟩) (gk_fillI hj rfl) _ _ _ hP hS (lv_sub hl [1, 2, 3, 0] rfl)
  exact lp _ 0 (fun _ => 0) w3 (Nat.lt_succ_self _) (Nat.zero_le _) h6 hg0 (fun j q => absurd q (Nat.not_lt_zero _)) _ _ _ hP hS (lv_sub hl [2, 3, 1, 0] rfl)

