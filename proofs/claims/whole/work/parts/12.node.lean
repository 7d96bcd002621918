abbrev rm_Pr_init : Room := { frames := 1, cells := 0, slots := 0, locals := 12 }
set_option maxHeartbeats 4000000 in
set_option maxRecDepth 100000 in
theorem c_Pr_init {l : Launch} {s0 : State} {D : va_G} {ca : Nat → ClassId} (C : hv_C l s0 D (hv_tys ca)) {w : hv_W} {a t : Nat} (k d : Int32) (x : Int64) (h0 : w a = some (.inr (4, [.int 0, .int 0, .long 0, .null])))  :
    hv_Met l y_Pr_init [.code y_Pr_init b_Pr_init 6 none] rm_Pr_init (hv_Pc s0 D w [.ref a, .int k, .int d, .long x, .ref t]) (hv_Q s0 D (fun v w' => v = none ∧ hv_U a (.inr (4, [.int k, .int d, .long x, .ref t])) w w') (fun _ _ => False)) 0 0 (hv_A s0.heap.size) := by
  refine hv_enter C _ (by decide) (Nat.le_of_ble_eq_true rfl) ?_
  intro p e s m below meth c ls Q hQ hx hb hr hml hown hts hK hZ hlocks hname hout htr hP hl
  have hown : s.vm.findClass R_Pr = some m.cls := hown
  have hS : va_S (hv_A s0.heap.size) s.heap s.heap [] := va_S.rf
  have hl : lv_has ls 6 [(0, .ref a), (1, .int k), (2, .int d), (3, .long x), (5, .ref t)] := hl
  refine lv_aload_n hx hb d_Pr_init_0 rfl (lv_at hl 0 rfl) ?_
  refine W.objInit hx hb hown (hts _ k_Pr_1) (hts _ ki_objInit) (hts _ kc_objInit) rfl (by rw [hml]; exact hl.1) rfl d_Pr_init_1 (Nat.le_of_ble_eq_true rfl) (Nat.le_of_ble_eq_true rfl) ?_
  show W _ _ _ _ _ _ _ _ _ _ _ _ _ _ _ (F0 m 4 ls [])
  refine lv_aload_n hx hb d_Pr_init_4 rfl (lv_at hl 0 rfl) ?_
  refine lv_iload_n hx hb d_Pr_init_5 rfl (lv_at hl 1 rfl) ?_
  refine hv_putF (D := D) (ci := 4) (v := .int k) (ty := .int) (C := R_Pr) (T := F_Pr) (N := 4) hx hb hts i_Pr t_Pr t_Pr_ok n_Pr hown hK hP hS h0 rfl 0 (by decide) (hts _ k_Pr_7) (fun _ h9 => h9) rfl hname rfl (by decide +kernel) rfl rfl (Nat.le_of_ble_eq_true rfl) d_Pr_init_6 (fun H locs hP hS => ?_)
  obtain ⟨w1, ew1⟩ : ∃ z : hv_W, z = va_up w a (some (.inr (4, [.int k, .int 0, .long 0, .null]))) := ⟨_, rfl⟩
  have hP : hv_P D classes s0.heap.size w1 H := by rw [ew1]; exact hP
  have h2 : w1 a = some (.inr (4, [.int k, .int 0, .long 0, .null])) := by rw [ew1]; exact hv_up_s
  refine lv_aload_n hx hb d_Pr_init_9 rfl (lv_at hl 0 rfl) ?_
  refine lv_iload_n hx hb d_Pr_init_10 rfl (lv_at hl 2 rfl) ?_
  refine hv_putF (D := D) (ci := 4) (v := .int d) (ty := .int) (C := R_Pr) (T := F_Pr) (N := 4) hx hb hts i_Pr t_Pr t_Pr_ok n_Pr hown hK hP hS h2 rfl 1 (by decide) (hts _ k_Pr_13) (fun _ h9 => h9) rfl hname rfl (by decide +kernel) rfl rfl (Nat.le_of_ble_eq_true rfl) d_Pr_init_11 (fun H locs hP hS => ?_)
  obtain ⟨w3, ew3⟩ : ∃ z : hv_W, z = va_up w1 a (some (.inr (4, [.int k, .int d, .long 0, .null]))) := ⟨_, rfl⟩
  have hP : hv_P D classes s0.heap.size w3 H := by rw [ew3]; exact hP
  have h4 : w3 a = some (.inr (4, [.int k, .int d, .long 0, .null])) := by rw [ew3]; exact hv_up_s
  refine lv_aload_n hx hb d_Pr_init_14 rfl (lv_at hl 0 rfl) ?_
  refine lv_lload_n hx hb d_Pr_init_15 rfl (lv_at hl 3 rfl) ?_
  refine hv_putF (D := D) (ci := 4) (v := .long x) (ty := .long) (C := R_Pr) (T := F_Pr) (N := 4) hx hb hts i_Pr t_Pr t_Pr_ok n_Pr hown hK hP hS h4 rfl 2 (by decide) (hts _ k_Pr_16) (fun _ h9 => h9) rfl hname rfl (by decide +kernel) rfl rfl (Nat.le_of_ble_eq_true rfl) d_Pr_init_16 (fun H locs hP hS => ?_)
  obtain ⟨w5, ew5⟩ : ∃ z : hv_W, z = va_up w3 a (some (.inr (4, [.int k, .int d, .long x, .null]))) := ⟨_, rfl⟩
  have hP : hv_P D classes s0.heap.size w5 H := by rw [ew5]; exact hP
  have h6 : w5 a = some (.inr (4, [.int k, .int d, .long x, .null])) := by rw [ew5]; exact hv_up_s
  refine lv_aload_n hx hb d_Pr_init_19 rfl (lv_at hl 0 rfl) ?_
  refine lv_aload hx hb d_Pr_init_20 (lv_at hl 4 rfl) ?_
  refine hv_putF (D := D) (ci := 4) (v := .ref t) (ty := .array .byte) (C := R_Pr) (T := F_Pr) (N := 4) hx hb hts i_Pr t_Pr t_Pr_ok n_Pr hown hK hP hS h6 rfl 3 (by decide) (hts _ k_Pr_20) (fun _ h9 => h9) rfl hname rfl (by decide +kernel) rfl rfl (Nat.le_of_ble_eq_true rfl) d_Pr_init_22 (fun H locs hP hS => ?_)
  obtain ⟨w7, ew7⟩ : ∃ z : hv_W, z = va_up w5 a (some (.inr (4, [.int k, .int d, .long x, .ref t]))) := ⟨_, rfl⟩
  have hP : hv_P D classes s0.heap.size w7 H := by rw [ew7]; exact hP
  have h8 : w7 a = some (.inr (4, [.int k, .int d, .long x, .ref t])) := by rw [ew7]; exact hv_up_s
  exact hv_vret hQ hx hb hr hZ hS hP hlocks d_Pr_init_25 (⟨rfl, h8, fun b9 hb9 => by rw [ew7, hv_up_n hb9, ew5, hv_up_n hb9, ew3, hv_up_n hb9, ew1, hv_up_n hb9]⟩)

abbrev rm_Th_initN : Room := { frames := 1, cells := 0, slots := 0, locals := 12 }
set_option maxHeartbeats 4000000 in
set_option maxRecDepth 100000 in
theorem c_Th_initN {l : Launch} {s0 : State} {D : va_G} {ca : Nat → ClassId} (C : hv_C l s0 D (hv_tys ca)) {w : hv_W} {a pa : Nat} (h0 : w a = some (.inr (5, [.null, .null])))  :
    hv_Met l y_Th_init [.code y_Th_init b_Th_init 2 none] rm_Th_initN (hv_Pc s0 D w [.ref a, .ref pa]) (hv_Q s0 D (fun v w' => v = none ∧ hv_U a (.inr (5, [.ref pa, .null])) w w') (fun _ _ => False)) 0 0 (hv_A s0.heap.size) := by
  refine hv_enter C _ (by decide) (Nat.le_of_ble_eq_true rfl) ?_
  intro p e s m below meth c ls Q hQ hx hb hr hml hown hts hK hZ hlocks hname hout htr hP hl
  have hown : s.vm.findClass R_Th = some m.cls := hown
  have hS : va_S (hv_A s0.heap.size) s.heap s.heap [] := va_S.rf
  have hl : lv_has ls 2 [(0, .ref a), (1, .ref pa)] := hl
  refine lv_aload_n hx hb d_Th_init_0 rfl (lv_at hl 0 rfl) ?_
  refine W.objInit hx hb hown (hts _ k_Th_1) (hts _ ki_objInit) (hts _ kc_objInit) rfl (by rw [hml]; exact hl.1) rfl d_Th_init_1 (Nat.le_of_ble_eq_true rfl) (Nat.le_of_ble_eq_true rfl) ?_
  show W _ _ _ _ _ _ _ _ _ _ _ _ _ _ _ (F0 m 4 ls [])
  refine lv_aload_n hx hb d_Th_init_4 rfl (lv_at hl 0 rfl) ?_
  refine lv_aload_n hx hb d_Th_init_5 rfl (lv_at hl 1 rfl) ?_
  refine hv_putF (D := D) (ci := 5) (v := .ref pa) (ty := .array (.object "GraphKeep$Property")) (C := R_Nd) (T := F_Nd) (N := 2) hx hb hts i_Nd t_Nd t_Nd_ok n_Nd hown hK hP hS h0 rfl 0 (by decide) (hts _ k_Th_7) (fun _ h9 => h9) rfl hname rfl (by decide +kernel) rfl rfl (Nat.le_of_ble_eq_true rfl) d_Th_init_6 (fun H locs hP hS => ?_)
  obtain ⟨w1, ew1⟩ : ∃ z : hv_W, z = va_up w a (some (.inr (5, [.ref pa, .null]))) := ⟨_, rfl⟩
  have hP : hv_P D classes s0.heap.size w1 H := by rw [ew1]; exact hP
  have h2 : w1 a = some (.inr (5, [.ref pa, .null])) := by rw [ew1]; exact hv_up_s
  exact hv_vret hQ hx hb hr hZ hS hP hlocks d_Th_init_9 (⟨rfl, h2, fun b9 hb9 => by rw [ew1, hv_up_n hb9]⟩)

abbrev rm_Th_initL : Room := { frames := 1, cells := 0, slots := 0, locals := 12 }
set_option maxHeartbeats 4000000 in
set_option maxRecDepth 100000 in
theorem c_Th_initL {l : Launch} {s0 : State} {D : va_G} {ca : Nat → ClassId} (C : hv_C l s0 D (hv_tys ca)) {w : hv_W} {a pa : Nat} (h0 : w a = some (.inr (6, [.null, .int 0, .int 0, .int 0])))  :
    hv_Met l y_Th_init [.code y_Th_init b_Th_init 2 none] rm_Th_initL (hv_Pc s0 D w [.ref a, .ref pa]) (hv_Q s0 D (fun v w' => v = none ∧ hv_U a (.inr (6, [.ref pa, .int 0, .int 0, .int 0])) w w') (fun _ _ => False)) 0 0 (hv_A s0.heap.size) := by
  refine hv_enter C _ (by decide) (Nat.le_of_ble_eq_true rfl) ?_
  intro p e s m below meth c ls Q hQ hx hb hr hml hown hts hK hZ hlocks hname hout htr hP hl
  have hown : s.vm.findClass R_Th = some m.cls := hown
  have hS : va_S (hv_A s0.heap.size) s.heap s.heap [] := va_S.rf
  have hl : lv_has ls 2 [(0, .ref a), (1, .ref pa)] := hl
  refine lv_aload_n hx hb d_Th_init_0 rfl (lv_at hl 0 rfl) ?_
  refine W.objInit hx hb hown (hts _ k_Th_1) (hts _ ki_objInit) (hts _ kc_objInit) rfl (by rw [hml]; exact hl.1) rfl d_Th_init_1 (Nat.le_of_ble_eq_true rfl) (Nat.le_of_ble_eq_true rfl) ?_
  show W _ _ _ _ _ _ _ _ _ _ _ _ _ _ _ (F0 m 4 ls [])
  refine lv_aload_n hx hb d_Th_init_4 rfl (lv_at hl 0 rfl) ?_
  refine lv_aload_n hx hb d_Th_init_5 rfl (lv_at hl 1 rfl) ?_
  refine hv_putF (D := D) (ci := 6) (v := .ref pa) (ty := .array (.object "GraphKeep$Property")) (C := R_Lk) (T := F_Lk) (N := 4) hx hb hts i_Lk t_Lk t_Lk_ok n_Lk hown hK hP hS h0 rfl 0 (by decide) (hts _ k_Th_7) (fun _ h9 => h9) rfl hname rfl (by decide +kernel) rfl rfl (Nat.le_of_ble_eq_true rfl) d_Th_init_6 (fun H locs hP hS => ?_)
  obtain ⟨w1, ew1⟩ : ∃ z : hv_W, z = va_up w a (some (.inr (6, [.ref pa, .int 0, .int 0, .int 0]))) := ⟨_, rfl⟩
  have hP : hv_P D classes s0.heap.size w1 H := by rw [ew1]; exact hP
  have h2 : w1 a = some (.inr (6, [.ref pa, .int 0, .int 0, .int 0])) := by rw [ew1]; exact hv_up_s
  exact hv_vret hQ hx hb hr hZ hS hP hlocks d_Th_init_9 (⟨rfl, h2, fun b9 hb9 => by rw [ew1, hv_up_n hb9]⟩)

abbrev rm_Nd_init : Room := { frames := 2, cells := 0, slots := 0, locals := 33 }
set_option maxHeartbeats 4000000 in
set_option maxRecDepth 100000 in
theorem c_Nd_init {l : Launch} {s0 : State} {D : va_G} {ca : Nat → ClassId} (C : hv_C l s0 D (hv_tys ca)) {w : hv_W} {a lb pa : Nat} (h0 : w a = some (.inr (5, [.null, .null])))  :
    hv_Met l y_Nd_init [.code y_Nd_init b_Nd_init 3 none] rm_Nd_init (hv_Pc s0 D w [.ref a, .ref lb, .ref pa]) (hv_Q s0 D (fun v w' => v = none ∧ hv_U a (.inr (5, [.ref pa, .ref lb])) w w') (fun _ _ => False)) 0 0 (hv_A s0.heap.size) := by
  refine hv_enter C _ (by decide) (Nat.le_of_ble_eq_true rfl) ?_
  intro p e s m below meth c ls Q hQ hx hb hr hml hown hts hK hZ hlocks hname hout htr hP hl
  have hown : s.vm.findClass R_Nd = some m.cls := hown
  have hS : va_S (hv_A s0.heap.size) s.heap s.heap [] := va_S.rf
  have hl : lv_has ls 3 [(0, .ref a), (1, .ref lb), (2, .ref pa)] := hl
  refine lv_aload_n hx hb d_Nd_init_0 rfl (lv_at hl 0 rfl) ?_
  refine lv_aload_n hx hb d_Nd_init_1 rfl (lv_at hl 2 rfl) ?_
  refine hv_call (hv_runI (As := [.ref pa]) (rest := []) (c_Th_initN C h0) (hv_cw C hZ kc_Th_init kn_Th ⟨rfl, rfl, Nat.le_of_ble_eq_true rfl, Nat.le_of_ble_eq_true rfl⟩) hv_blind (hv_pre hZ hS hP) hx hml hb hown (hts _ k_Nd_1) (hts _ ki_Th_init) rfl hy_Th_init (hts _ kc_Th_init) rfl hl.1 rfl (lv_room (Nat.le_of_ble_eq_true rfl)) d_Nd_init_2 ⟨Nat.le_of_ble_eq_true rfl, Nat.le_of_ble_eq_true rfl⟩) hZ hS (fun v9 w1 H locs q2 hP hS => ?_) (fun x9 w1 H locs q2 hP hS => q2.elim)
  obtain ⟨rfl, q2u⟩ := q2
  show W _ _ _ _ _ _ _ _ _ _ _ _ _ _ _ (F0 m 5 ls [])
  refine lv_aload_n hx hb d_Nd_init_5 rfl (lv_at hl 0 rfl) ?_
  refine lv_aload_n hx hb d_Nd_init_6 rfl (lv_at hl 1 rfl) ?_
  refine hv_putF (D := D) (ci := 5) (v := .ref lb) (ty := .array .int) (C := R_Nd) (T := F_Nd) (N := 2) hx hb hts i_Nd t_Nd t_Nd_ok n_Nd hown hK hP hS q2u.1 rfl 1 (by decide) (hts _ k_Nd_7) (fun _ h9 => h9) rfl hname rfl (by decide +kernel) rfl rfl (Nat.le_of_ble_eq_true rfl) d_Nd_init_7 (fun H locs hP hS => ?_)
  obtain ⟨w3, ew3⟩ : ∃ z : hv_W, z = va_up w1 a (some (.inr (5, [.ref pa, .ref lb]))) := ⟨_, rfl⟩
  have hP : hv_P D classes s0.heap.size w3 H := by rw [ew3]; exact hP
  have h4 : w3 a = some (.inr (5, [.ref pa, .ref lb])) := by rw [ew3]; exact hv_up_s
  exact hv_vret hQ hx hb hr hZ hS hP hlocks d_Nd_init_10 (⟨rfl, h4, fun b9 hb9 => by rw [ew3, hv_up_n hb9]; exact q2u.2 b9 hb9⟩)

abbrev rm_Lk_init : Room := { frames := 2, cells := 0, slots := 0, locals := 33 }
set_option maxHeartbeats 4000000 in
set_option maxRecDepth 100000 in
theorem c_Lk_init {l : Launch} {s0 : State} {D : va_G} {ca : Nat → ClassId} (C : hv_C l s0 D (hv_tys ca)) {w : hv_W} {a pa : Nat} (sa ea ty : Int32) (h0 : w a = some (.inr (6, [.null, .int 0, .int 0, .int 0])))  :
    hv_Met l y_Lk_init [.code y_Lk_init b_Lk_init 5 none] rm_Lk_init (hv_Pc s0 D w [.ref a, .int sa, .int ea, .int ty, .ref pa]) (hv_Q s0 D (fun v w' => v = none ∧ hv_U a (.inr (6, [.ref pa, .int sa, .int ea, .int ty])) w w') (fun _ _ => False)) 0 0 (hv_A s0.heap.size) := by
  refine hv_enter C _ (by decide) (Nat.le_of_ble_eq_true rfl) ?_
  intro p e s m below meth c ls Q hQ hx hb hr hml hown hts hK hZ hlocks hname hout htr hP hl
  have hown : s.vm.findClass R_Lk = some m.cls := hown
  have hS : va_S (hv_A s0.heap.size) s.heap s.heap [] := va_S.rf
  have hl : lv_has ls 5 [(0, .ref a), (1, .int sa), (2, .int ea), (3, .int ty), (4, .ref pa)] := hl
  refine lv_aload_n hx hb d_Lk_init_0 rfl (lv_at hl 0 rfl) ?_
  refine lv_aload hx hb d_Lk_init_1 (lv_at hl 4 rfl) ?_
  refine hv_call (hv_runI (As := [.ref pa]) (rest := []) (c_Th_initL C h0) (hv_cw C hZ kc_Th_init kn_Th ⟨rfl, rfl, Nat.le_of_ble_eq_true rfl, Nat.le_of_ble_eq_true rfl⟩) hv_blind (hv_pre hZ hS hP) hx hml hb hown (hts _ k_Lk_1) (hts _ ki_Th_init) rfl hy_Th_init (hts _ kc_Th_init) rfl hl.1 rfl (lv_room (Nat.le_of_ble_eq_true rfl)) d_Lk_init_3 ⟨Nat.le_of_ble_eq_true rfl, Nat.le_of_ble_eq_true rfl⟩) hZ hS (fun v9 w1 H locs q2 hP hS => ?_) (fun x9 w1 H locs q2 hP hS => q2.elim)
  obtain ⟨rfl, q2u⟩ := q2
  show W _ _ _ _ _ _ _ _ _ _ _ _ _ _ _ (F0 m 6 ls [])
  refine lv_aload_n hx hb d_Lk_init_6 rfl (lv_at hl 0 rfl) ?_
  refine lv_iload_n hx hb d_Lk_init_7 rfl (lv_at hl 1 rfl) ?_
  refine hv_putF (D := D) (ci := 6) (v := .int sa) (ty := .int) (C := R_Lk) (T := F_Lk) (N := 4) hx hb hts i_Lk t_Lk t_Lk_ok n_Lk hown hK hP hS q2u.1 rfl 1 (by decide) (hts _ k_Lk_7) (fun _ h9 => h9) rfl hname rfl (by decide +kernel) rfl rfl (Nat.le_of_ble_eq_true rfl) d_Lk_init_8 (fun H locs hP hS => ?_)
  obtain ⟨w3, ew3⟩ : ∃ z : hv_W, z = va_up w1 a (some (.inr (6, [.ref pa, .int sa, .int 0, .int 0]))) := ⟨_, rfl⟩
  have hP : hv_P D classes s0.heap.size w3 H := by rw [ew3]; exact hP
  have h4 : w3 a = some (.inr (6, [.ref pa, .int sa, .int 0, .int 0])) := by rw [ew3]; exact hv_up_s
  refine lv_aload_n hx hb d_Lk_init_11 rfl (lv_at hl 0 rfl) ?_
  refine lv_iload_n hx hb d_Lk_init_12 rfl (lv_at hl 2 rfl) ?_
  refine hv_putF (D := D) (ci := 6) (v := .int ea) (ty := .int) (C := R_Lk) (T := F_Lk) (N := 4) hx hb hts i_Lk t_Lk t_Lk_ok n_Lk hown hK hP hS h4 rfl 2 (by decide) (hts _ k_Lk_13) (fun _ h9 => h9) rfl hname rfl (by decide +kernel) rfl rfl (Nat.le_of_ble_eq_true rfl) d_Lk_init_13 (fun H locs hP hS => ?_)
  obtain ⟨w5, ew5⟩ : ∃ z : hv_W, z = va_up w3 a (some (.inr (6, [.ref pa, .int sa, .int ea, .int 0]))) := ⟨_, rfl⟩
  have hP : hv_P D classes s0.heap.size w5 H := by rw [ew5]; exact hP
  have h6 : w5 a = some (.inr (6, [.ref pa, .int sa, .int ea, .int 0])) := by rw [ew5]; exact hv_up_s
  refine lv_aload_n hx hb d_Lk_init_16 rfl (lv_at hl 0 rfl) ?_
  refine lv_iload_n hx hb d_Lk_init_17 rfl (lv_at hl 3 rfl) ?_
  refine hv_putF (D := D) (ci := 6) (v := .int ty) (ty := .int) (C := R_Lk) (T := F_Lk) (N := 4) hx hb hts i_Lk t_Lk t_Lk_ok n_Lk hown hK hP hS h6 rfl 3 (by decide) (hts _ k_Lk_16) (fun _ h9 => h9) rfl hname rfl (by decide +kernel) rfl rfl (Nat.le_of_ble_eq_true rfl) d_Lk_init_18 (fun H locs hP hS => ?_)
  obtain ⟨w7, ew7⟩ : ∃ z : hv_W, z = va_up w5 a (some (.inr (6, [.ref pa, .int sa, .int ea, .int ty]))) := ⟨_, rfl⟩
  have hP : hv_P D classes s0.heap.size w7 H := by rw [ew7]; exact hP
  have h8 : w7 a = some (.inr (6, [.ref pa, .int sa, .int ea, .int ty])) := by rw [ew7]; exact hv_up_s
  exact hv_vret hQ hx hb hr hZ hS hP hlocks d_Lk_init_21 (⟨rfl, h8, fun b9 hb9 => by rw [ew7, hv_up_n hb9, ew5, hv_up_n hb9, ew3, hv_up_n hb9]; exact q2u.2 b9 hb9⟩)

abbrev rm_Th_placeOfN : Room := { frames := 0, cells := 0, slots := 0, locals := 0 }
set_option maxHeartbeats 4000000 in
set_option maxRecDepth 100000 in
/-- placeOf(x): the first place that has the key, or the length -/
theorem c_Th_placeOfN {l : Launch} {s0 : State} {D : va_G} {ca : Nat → ClassId} (C : hv_C l s0 D (hv_tys ca)) {w : hv_W} {a pa np : Nat} {pf : Nat → Option Nat} {pc : Nat → Int32 × Int32 × Int64 × Nat} {lb : Nat} (x : Int32) (h0 : w a = some (.inr (5, [.ref pa, .ref lb]))) (hp : w pa = some (.inl (ca 4, np, .inr (.inr (.inr (.inr pf)))))) (hq : ∀ i, i < np → ∃ q, pf i = some q ∧ w q = some (.inr (4, [.int (pc i).1, .int (pc i).2.1, .long (pc i).2.2.1, .ref (pc i).2.2.2]))) (hnp : np ≤ 6)  :
    hv_Met l y_Th_placeOf [.code y_Th_placeOf b_Th_placeOf 3 (some .int)] rm_Th_placeOfN (hv_Pc s0 D w [.ref a, .int x]) (hv_Q s0 D (fun v w' => (∃ i, v = some (.int (nI i)) ∧ gk_fst (fun j => (pc j).1) np x i) ∧ w' = w) (fun _ _ => False)) 0 0 (hv_A s0.heap.size) := by
  refine hv_enter C _ (by decide) (Nat.le_of_ble_eq_true rfl) ?_
  intro p e s m below meth c ls Q hQ hx hb hr hml hown hts hK hZ hlocks hname hout htr hP hl
  have hown : s.vm.findClass R_Th = some m.cls := hown
  have hS : va_S (hv_A s0.heap.size) s.heap s.heap [] := va_S.rf
  have hl : lv_has ls 3 [(0, .ref a), (1, .int x)] := hl
  refine lv_iconst (v := 0) hx hb d_Th_placeOf_0 (by decide) ?_
  refine lv_istore_n (lv' := [(2, .int 0), (0, .ref a), (1, .int x)]) hx hb d_Th_placeOf_1 rfl hl (by decide) rfl (fun ls hl => ?_)
  have lp : ∀ (n9 : Nat) (i : Nat), np - i < n9 → (i ≤ np) → (∀ j, j < i → ¬ (pc j).1 = x) → ∀ (H : Heap) (locs : List Loc) (ls : Array Slot), hv_P D classes s0.heap.size w H → va_S (hv_A s0.heap.size) s.heap H locs → lv_has ls 3 [(0, .ref a), (1, .int x), (2, .int (nI i))] → W p l e rm_Th_placeOfN s m ([.ref a, .int x] : List Value).toArray below meth c H locs 0 0 Q (F0 m 2 ls []) := by
    intro n9
    induction n9 with
    | zero =>
      intro i hn9
      exact absurd hn9 (Nat.not_lt_zero _)
    | succ n9 ih =>
      intro i hn9 hi hj H locs ls hP hS hl
      refine lv_iload_n hx hb d_Th_placeOf_2 rfl (lv_at hl 2 rfl) ?_
      refine lv_aload_n hx hb d_Th_placeOf_3 rfl (lv_at hl 0 rfl) ?_
      refine va_get (D := D) (ci := 5) (v := .ref pa) (C := R_Nd) (T := F_Nd) (N := 2) hx hb hts i_Nd hown hK (hv_one hP h0) 0 rfl rfl 0 (by decide) (hts _ k_Th_7) (fun _ h9 => h9) rfl d_Th_placeOf_4 ?_
      refine va_alen (v := nI np) hx hb hK (hv_one hP hp) 0 4 rfl rfl rfl d_Th_placeOf_7 ?_
      refine lv_icmp_ge (tgt := 30) hx hb d_Th_placeOf_8 (by decide) (fun c8 => ?_) (fun c8 => ?_)
      · refine lv_iload_n hx hb d_Th_placeOf_30 rfl (lv_at hl 2 rfl) ?_
        exact hv_iret (v := nI i) hQ hx hb hr hZ hS hP hlocks d_Th_placeOf_31 (⟨⟨i, rfl, hi, hj, fun z => absurd (gk_ge c8 (by omega) (by omega)) (Nat.not_le.mpr z)⟩, rfl⟩)
      · have hlt : i < np := gk_lt c8 (by omega) (by omega)
        refine lv_aload_n hx hb d_Th_placeOf_11 rfl (lv_at hl 0 rfl) ?_
        refine va_get (D := D) (ci := 5) (v := .ref pa) (C := R_Nd) (T := F_Nd) (N := 2) hx hb hts i_Nd hown hK (hv_one hP h0) 0 rfl rfl 0 (by decide) (hts _ k_Th_7) (fun _ h9 => h9) rfl d_Th_placeOf_12 ?_
        refine lv_iload_n hx hb d_Th_placeOf_15 rfl (lv_at hl 2 rfl) ?_
        refine va_aldq hx hb hK (hv_one hP hp) 0 4 rfl rfl (vp_in_nI hlt (by omega)) d_Th_placeOf_16 ?_
        rw [nI_clamp (n := i) (by omega)]
        obtain ⟨q, hq1, hq2⟩ := hq i hlt
        rw [hq1]
        show W _ _ _ _ _ _ _ _ _ _ _ _ _ _ _ (F0 m 17 ls [.ref q])
        refine va_get (D := D) (ci := 4) (v := .int ((pc i).1)) (C := R_Pr) (T := F_Pr) (N := 4) hx hb hts i_Pr hown hK (hv_one hP hq2) 0 rfl rfl 0 (by decide) (hts _ k_Th_17) (fun _ h9 => h9) rfl d_Th_placeOf_17 ?_
        refine lv_iload_n hx hb d_Th_placeOf_20 rfl (lv_at hl 1 rfl) ?_
        refine lv_icmp_eq (tgt := 30) hx hb d_Th_placeOf_21 (by decide) (fun c21 => ?_) (fun c21 => ?_)
        · refine lv_iload_n hx hb d_Th_placeOf_30 rfl (lv_at hl 2 rfl) ?_
          exact hv_iret (v := nI i) hQ hx hb hr hZ hS hP hlocks d_Th_placeOf_31 (⟨⟨i, rfl, hi, hj, fun _ => c21⟩, rfl⟩)
        · refine lv_iinc (v := (nI (i + 1))) (lv' := [(2, .int ((nI (i + 1)))), (0, .ref a), (1, .int x)]) hx hb d_Th_placeOf_24 hl (k := 2) rfl (nI_1 i) (by decide) rfl (fun ls hl => ?_)
          refine lv_goto (tgt := 2) hx hb d_Th_placeOf_27 (by decide) ?_
          exact ih (i + 1) (by omega) hlt (lt_s hj c21) _ _ _ hP hS (lv_sub hl [1, 2, 0] rfl)
  exact lp _ 0 (Nat.lt_succ_self _) (Nat.zero_le _) (fun j q => absurd q (Nat.not_lt_zero _)) _ _ _ hP hS (lv_sub hl [1, 2, 0] rfl)

abbrev rm_Th_placeOfL : Room := { frames := 0, cells := 0, slots := 0, locals := 0 }
set_option maxHeartbeats 4000000 in
set_option maxRecDepth 100000 in
/-- placeOf(x): the first place that has the key, or the length -/
theorem c_Th_placeOfL {l : Launch} {s0 : State} {D : va_G} {ca : Nat → ClassId} (C : hv_C l s0 D (hv_tys ca)) {w : hv_W} {a pa np : Nat} {pf : Nat → Option Nat} {pc : Nat → Int32 × Int32 × Int64 × Nat} {sa ea ty : Int32} (x : Int32) (h0 : w a = some (.inr (6, [.ref pa, .int sa, .int ea, .int ty]))) (hp : w pa = some (.inl (ca 4, np, .inr (.inr (.inr (.inr pf)))))) (hq : ∀ i, i < np → ∃ q, pf i = some q ∧ w q = some (.inr (4, [.int (pc i).1, .int (pc i).2.1, .long (pc i).2.2.1, .ref (pc i).2.2.2]))) (hnp : np ≤ 6)  :
    hv_Met l y_Th_placeOf [.code y_Th_placeOf b_Th_placeOf 3 (some .int)] rm_Th_placeOfL (hv_Pc s0 D w [.ref a, .int x]) (hv_Q s0 D (fun v w' => (∃ i, v = some (.int (nI i)) ∧ gk_fst (fun j => (pc j).1) np x i) ∧ w' = w) (fun _ _ => False)) 0 0 (hv_A s0.heap.size) := by
  refine hv_enter C _ (by decide) (Nat.le_of_ble_eq_true rfl) ?_
  intro p e s m below meth c ls Q hQ hx hb hr hml hown hts hK hZ hlocks hname hout htr hP hl
  have hown : s.vm.findClass R_Th = some m.cls := hown
  have hS : va_S (hv_A s0.heap.size) s.heap s.heap [] := va_S.rf
  have hl : lv_has ls 3 [(0, .ref a), (1, .int x)] := hl
  refine lv_iconst (v := 0) hx hb d_Th_placeOf_0 (by decide) ?_
  refine lv_istore_n (lv' := [(2, .int 0), (0, .ref a), (1, .int x)]) hx hb d_Th_placeOf_1 rfl hl (by decide) rfl (fun ls hl => ?_)
  have lp : ∀ (n9 : Nat) (i : Nat), np - i < n9 → (i ≤ np) → (∀ j, j < i → ¬ (pc j).1 = x) → ∀ (H : Heap) (locs : List Loc) (ls : Array Slot), hv_P D classes s0.heap.size w H → va_S (hv_A s0.heap.size) s.heap H locs → lv_has ls 3 [(0, .ref a), (1, .int x), (2, .int (nI i))] → W p l e rm_Th_placeOfL s m ([.ref a, .int x] : List Value).toArray below meth c H locs 0 0 Q (F0 m 2 ls []) := by
    intro n9
    induction n9 with
    | zero =>
      intro i hn9
      exact absurd hn9 (Nat.not_lt_zero _)
    | succ n9 ih =>
      intro i hn9 hi hj H locs ls hP hS hl
      refine lv_iload_n hx hb d_Th_placeOf_2 rfl (lv_at hl 2 rfl) ?_
      refine lv_aload_n hx hb d_Th_placeOf_3 rfl (lv_at hl 0 rfl) ?_
      refine va_get (D := D) (ci := 6) (v := .ref pa) (C := R_Lk) (T := F_Lk) (N := 4) hx hb hts i_Lk hown hK (hv_one hP h0) 0 rfl rfl 0 (by decide) (hts _ k_Th_7) (fun _ h9 => h9) rfl d_Th_placeOf_4 ?_
      refine va_alen (v := nI np) hx hb hK (hv_one hP hp) 0 4 rfl rfl rfl d_Th_placeOf_7 ?_
      refine lv_icmp_ge (tgt := 30) hx hb d_Th_placeOf_8 (by decide) (fun c8 => ?_) (fun c8 => ?_)
      · refine lv_iload_n hx hb d_Th_placeOf_30 rfl (lv_at hl 2 rfl) ?_
        exact hv_iret (v := nI i) hQ hx hb hr hZ hS hP hlocks d_Th_placeOf_31 (⟨⟨i, rfl, hi, hj, fun z => absurd (gk_ge c8 (by omega) (by omega)) (Nat.not_le.mpr z)⟩, rfl⟩)
      · have hlt : i < np := gk_lt c8 (by omega) (by omega)
        refine lv_aload_n hx hb d_Th_placeOf_11 rfl (lv_at hl 0 rfl) ?_
        refine va_get (D := D) (ci := 6) (v := .ref pa) (C := R_Lk) (T := F_Lk) (N := 4) hx hb hts i_Lk hown hK (hv_one hP h0) 0 rfl rfl 0 (by decide) (hts _ k_Th_7) (fun _ h9 => h9) rfl d_Th_placeOf_12 ?_
        refine lv_iload_n hx hb d_Th_placeOf_15 rfl (lv_at hl 2 rfl) ?_
        refine va_aldq hx hb hK (hv_one hP hp) 0 4 rfl rfl (vp_in_nI hlt (by omega)) d_Th_placeOf_16 ?_
        rw [nI_clamp (n := i) (by omega)]
        obtain ⟨q, hq1, hq2⟩ := hq i hlt
        rw [hq1]
        show W _ _ _ _ _ _ _ _ _ _ _ _ _ _ _ (F0 m 17 ls [.ref q])
        refine va_get (D := D) (ci := 4) (v := .int ((pc i).1)) (C := R_Pr) (T := F_Pr) (N := 4) hx hb hts i_Pr hown hK (hv_one hP hq2) 0 rfl rfl 0 (by decide) (hts _ k_Th_17) (fun _ h9 => h9) rfl d_Th_placeOf_17 ?_
        refine lv_iload_n hx hb d_Th_placeOf_20 rfl (lv_at hl 1 rfl) ?_
        refine lv_icmp_eq (tgt := 30) hx hb d_Th_placeOf_21 (by decide) (fun c21 => ?_) (fun c21 => ?_)
        · refine lv_iload_n hx hb d_Th_placeOf_30 rfl (lv_at hl 2 rfl) ?_
          exact hv_iret (v := nI i) hQ hx hb hr hZ hS hP hlocks d_Th_placeOf_31 (⟨⟨i, rfl, hi, hj, fun _ => c21⟩, rfl⟩)
        · refine lv_iinc (v := (nI (i + 1))) (lv' := [(2, .int ((nI (i + 1)))), (0, .ref a), (1, .int x)]) hx hb d_Th_placeOf_24 hl (k := 2) rfl (nI_1 i) (by decide) rfl (fun ls hl => ?_)
          refine lv_goto (tgt := 2) hx hb d_Th_placeOf_27 (by decide) ?_
          exact ih (i + 1) (by omega) hlt (lt_s hj c21) _ _ _ hP hS (lv_sub hl [1, 2, 0] rfl)
  exact lp _ 0 (Nat.lt_succ_self _) (Nat.zero_le _) (fun j q => absurd q (Nat.not_lt_zero _)) _ _ _ hP hS (lv_sub hl [1, 2, 0] rfl)

abbrev rm_Nd_placeOfLabel : Room := { frames := 0, cells := 0, slots := 0, locals := 0 }
set_option maxHeartbeats 4000000 in
set_option maxRecDepth 100000 in
/-- placeOfLabel(x) -/
theorem c_Nd_placeOfLabel {l : Launch} {s0 : State} {D : va_G} {ca : Nat → ClassId} (C : hv_C l s0 D (hv_tys ca)) {w : hv_W} {a pa lb nl : Nat} {lf : Nat → Int32} (x : Int32) (h0 : w a = some (.inr (5, [.ref pa, .ref lb]))) (hl0 : w lb = some (.inl (ca 0, nl, .inl lf))) (hnl : nl ≤ 4)  :
    hv_Met l y_Nd_placeOfLabel [.code y_Nd_placeOfLabel b_Nd_placeOfLabel 3 (some .int)] rm_Nd_placeOfLabel (hv_Pc s0 D w [.ref a, .int x]) (hv_Q s0 D (fun v w' => (∃ i, v = some (.int (nI i)) ∧ gk_fst lf nl x i) ∧ w' = w) (fun _ _ => False)) 0 0 (hv_A s0.heap.size) := by
  refine hv_enter C _ (by decide) (Nat.le_of_ble_eq_true rfl) ?_
  intro p e s m below meth c ls Q hQ hx hb hr hml hown hts hK hZ hlocks hname hout htr hP hl
  have hown : s.vm.findClass R_Nd = some m.cls := hown
  have hS : va_S (hv_A s0.heap.size) s.heap s.heap [] := va_S.rf
  have hl : lv_has ls 3 [(0, .ref a), (1, .int x)] := hl
  refine lv_iconst (v := 0) hx hb d_Nd_placeOfLabel_0 (by decide) ?_
  refine lv_istore_n (lv' := [(2, .int 0), (0, .ref a), (1, .int x)]) hx hb d_Nd_placeOfLabel_1 rfl hl (by decide) rfl (fun ls hl => ?_)
  have lp : ∀ (n9 : Nat) (i : Nat), nl - i < n9 → (i ≤ nl) → (∀ j, j < i → ¬ lf j = x) → ∀ (H : Heap) (locs : List Loc) (ls : Array Slot), hv_P D classes s0.heap.size w H → va_S (hv_A s0.heap.size) s.heap H locs → lv_has ls 3 [(0, .ref a), (1, .int x), (2, .int (nI i))] → W p l e rm_Nd_placeOfLabel s m ([.ref a, .int x] : List Value).toArray below meth c H locs 0 0 Q (F0 m 2 ls []) := by
    intro n9
    induction n9 with
    | zero =>
      intro i hn9
      exact absurd hn9 (Nat.not_lt_zero _)
    | succ n9 ih =>
      intro i hn9 hi hj H locs ls hP hS hl
      refine lv_iload_n hx hb d_Nd_placeOfLabel_2 rfl (lv_at hl 2 rfl) ?_
      refine lv_aload_n hx hb d_Nd_placeOfLabel_3 rfl (lv_at hl 0 rfl) ?_
      refine va_get (D := D) (ci := 5) (v := .ref lb) (C := R_Nd) (T := F_Nd) (N := 2) hx hb hts i_Nd hown hK (hv_one hP h0) 0 rfl rfl 1 (by decide) (hts _ k_Nd_7) (fun _ h9 => h9) rfl d_Nd_placeOfLabel_4 ?_
      refine va_alen (v := nI nl) hx hb hK (hv_one hP hl0) 0 0 rfl rfl rfl d_Nd_placeOfLabel_7 ?_
      refine lv_icmp_ge (tgt := 27) hx hb d_Nd_placeOfLabel_8 (by decide) (fun c8 => ?_) (fun c8 => ?_)
      · refine lv_iload_n hx hb d_Nd_placeOfLabel_27 rfl (lv_at hl 2 rfl) ?_
        exact hv_iret (v := nI i) hQ hx hb hr hZ hS hP hlocks d_Nd_placeOfLabel_28 (⟨⟨i, rfl, hi, hj, fun z => absurd (gk_ge c8 (by omega) (by omega)) (Nat.not_le.mpr z)⟩, rfl⟩)
      · have hlt : i < nl := gk_lt c8 (by omega) (by omega)
        refine lv_aload_n hx hb d_Nd_placeOfLabel_11 rfl (lv_at hl 0 rfl) ?_
        refine va_get (D := D) (ci := 5) (v := .ref lb) (C := R_Nd) (T := F_Nd) (N := 2) hx hb hts i_Nd hown hK (hv_one hP h0) 0 rfl rfl 1 (by decide) (hts _ k_Nd_7) (fun _ h9 => h9) rfl d_Nd_placeOfLabel_12 ?_
        refine lv_iload_n hx hb d_Nd_placeOfLabel_15 rfl (lv_at hl 2 rfl) ?_
        refine va_iald hx hb hK (hv_one hP hl0) 0 0 rfl rfl (vp_in_nI hlt (by omega)) d_Nd_placeOfLabel_16 ?_
        rw [nI_clamp (n := i) (by omega)]
        refine lv_iload_n hx hb d_Nd_placeOfLabel_17 rfl (lv_at hl 1 rfl) ?_
        refine lv_icmp_eq (tgt := 27) hx hb d_Nd_placeOfLabel_18 (by decide) (fun c18 => ?_) (fun c18 => ?_)
        · refine lv_iload_n hx hb d_Nd_placeOfLabel_27 rfl (lv_at hl 2 rfl) ?_
          exact hv_iret (v := nI i) hQ hx hb hr hZ hS hP hlocks d_Nd_placeOfLabel_28 (⟨⟨i, rfl, hi, hj, fun _ => c18⟩, rfl⟩)
        · refine lv_iinc (v := (nI (i + 1))) (lv' := [(2, .int ((nI (i + 1)))), (0, .ref a), (1, .int x)]) hx hb d_Nd_placeOfLabel_21 hl (k := 2) rfl (nI_1 i) (by decide) rfl (fun ls hl => ?_)
          refine lv_goto (tgt := 2) hx hb d_Nd_placeOfLabel_24 (by decide) ?_
          exact ih (i + 1) (by omega) hlt (lt_s hj c18) _ _ _ hP hS (lv_sub hl [1, 2, 0] rfl)
  exact lp _ 0 (Nat.lt_succ_self _) (Nat.zero_le _) (fun j q => absurd q (Nat.not_lt_zero _)) _ _ _ hP hS (lv_sub hl [1, 2, 0] rfl)

