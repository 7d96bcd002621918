/-! THE STATE STAYS WELL-FORMED, CALL BY CALL -/
theorem w_drop {ps : List gP} (m : Nat) (h1 : ps.length ≤ 6) (h2 : (ps.map (fun q => q.1)).Nodup) (h3 : ∀ p, p ∈ ps → w_P p) : (ps.eraseIdx m).length ≤ 6 ∧ ((ps.eraseIdx m).map (fun q => q.1)).Nodup ∧ ∀ p, p ∈ ps.eraseIdx m → w_P p := by
  have hs := List.eraseIdx_sublist ps m
  exact ⟨Nat.le_trans hs.length_le h1, h2.sublist (hs.map _), fun p hp => h3 p (hs.subset hp)⟩
theorem w_put {ps : List gP} {pp : gP} (h1 : ps.length ≤ 6) (h2 : (ps.map (fun q => q.1)).Nodup) (h3 : ∀ p, p ∈ ps → w_P p) (hp : w_P pp) (hn : ¬ x_pk ps pp = 1) : (g_put ps pp).length ≤ 6 ∧ ((g_put ps pp).map (fun q => q.1)).Nodup ∧ ∀ p, p ∈ g_put ps pp → w_P p := by
  by_cases hg : g_pos ps pp.1 < ps.length
  · rw [g_put_set hg]
    refine ⟨by rw [List.length_set]; exact h1, ?_, fun p hm => ?_⟩
    · rw [List.map_set]
      have hk := g_pos_key hg
      have hl : g_pos ps pp.1 < (ps.map (fun q => q.1)).length := by rw [List.length_map]; exact hg
      rw [List.getD_eq_getElem?_getD, List.getElem?_eq_getElem hl] at hk
      have hk : (ps.map (fun q => q.1))[g_pos ps pp.1] = pp.1 := hk
      have e : (ps.map (fun q => q.1)).set (g_pos ps pp.1) pp.1 = ps.map (fun q => q.1) := by
        have z := List.set_getElem_self hl
        rw [hk] at z
        exact z
      rw [e]; exact h2
    · rcases List.mem_or_eq_of_mem_set hm with z | z
      · exact h3 p z
      · rw [z]; exact hp
  · rw [g_put_app hg]
    have hl := g_look_posn hg
    have h6 : ¬ 6 ≤ ps.length := fun z => hn (by rw [x_pk_n hl, if_pos z])
    refine ⟨by rw [List.length_append, List.length_singleton]; omega, ?_, fun p hm => ?_⟩
    · rw [List.map_append, List.nodup_append]
      refine ⟨h2, by simp, fun a ha b hb e => ?_⟩
      rw [List.map_singleton, List.mem_singleton] at hb
      subst hb; subst e
      obtain ⟨q, hq, e⟩ := List.mem_map.mp ha
      have := List.find?_eq_none.mp hl q hq
      exact this (by rw [e]; simp)
    · rcases List.mem_append.mp hm with z | z
      · exact h3 p z
      · rw [List.mem_singleton.mp z]; exact hp
theorem w_kd {kd : Int32} {x : Int64} (h : x_okv kd x) (h0 : ¬ kd = 0) (h3 : ¬ kd = 3) : kd = 1 ∨ kd = 2 := by
  obtain ⟨j, hj, rfl⟩ := nI_of2 (M := 3) (n := 3) (by decide) h.1 (Int32.not_lt.mp h.2.1)
  rcases (show j = 0 ∨ j = 1 ∨ j = 2 ∨ j = 3 by omega) with rfl | rfl | rfl | rfl
  · exact absurd rfl h0
  · exact Or.inl rfl
  · exact Or.inr rfl
  · exact absurd rfl h3
theorem gX_put {σ : gS} (h : gX σ) {i : Nat} {t : gT} {pp : gP} (ho : σ.off = 0) (hi : i < 160) (ht : σ.now i = some t) (hp : w_P pp) : gX (x_put σ i t pp).1 := by
  have hw := h.1.1.1.1 i hi t ht
  unfold x_put
  by_cases h0 : x_pk t.ps pp = 0
  · rw [cif_pos h0]; exact h
  · rw [cif_neg h0]
    by_cases h1 : x_pk t.ps pp = 1
    · rw [cif_pos h1]; exact gX_err h 6
    · rw [cif_neg h1]
      by_cases hc : 249 ≤ σ.ec + σ.sc
      · rw [cif_pos hc]; exact gX_err h 9
      · rw [cif_neg hc]
        obtain ⟨z1, z2, z3⟩ := w_put hw.2.2.1 hw.2.2.2.1 hw.2.2.2.2 hp h1
        exact gX_one h i _ ho hc (w_G_some h.1.1.1 (w_T_ps hw z1 z2 z3) (w_ends h.1.1.1 ht rfl rfl))
theorem gX_property {σ : gS} (h : gX σ) (k n y kd : Int32) (x : Int64) : gX (x_property σ k n y kd x).1 := by
  unfold x_property
  by_cases ho : σ.off = 0
  · rw [cif_pos ho]
    cases hf : x_find σ.now k n with
    | none => exact gX_err h 8
    | some it =>
      obtain ⟨i, t⟩ := it
      dsimp only
      have hi := x_find_lt hf
      have ht := (x_find_some hf).1
      have hw := h.1.1.1.1 i hi t ht
      by_cases hok : x_okv kd x
      · rw [cif_pos hok]
        by_cases h0 : kd = 0
        · rw [cif_pos h0]
          unfold x_drp
          cases hg : g_look t.ps y with
          | none => exact h
          | some o =>
            dsimp only
            by_cases hc : 249 ≤ σ.ec + σ.sc
            · rw [cif_pos hc]; exact gX_err h 9
            · rw [cif_neg hc]
              obtain ⟨z1, z2, z3⟩ := w_drop (g_pos t.ps y) hw.2.2.1 hw.2.2.2.1 hw.2.2.2.2
              exact gX_one h i _ ho hc (w_G_some h.1.1.1 (w_T_ps hw z1 z2 z3) (w_ends h.1.1.1 ht rfl rfl))
        · rw [cif_neg h0]
          by_cases h3 : kd = 3
          · rw [cif_pos h3]
            exact gX_put (gX_tape h [] (Nat.zero_le _) (fun _ z => by cases z)) ho hi ht ⟨h.1.2.1.1, h.1.2.1.2, fun _ => rfl, fun z => absurd h3 z, Or.inr (Or.inr h3)⟩
          · rw [cif_neg h3]
            exact gX_put h ho hi ht ⟨Nat.zero_le _, fun _ z => (by cases z), fun z => absurd z h3, fun _ => rfl, (w_kd hok h0 h3).elim Or.inl (fun z => Or.inr (Or.inl z))⟩
      · rw [cif_neg hok]; exact gX_err h 2
  · rw [cif_neg ho]; exact h
theorem gX_take {σ : gS} (h : gX σ) (k n : Int32) : gX (x_take σ k n).1 := by
  unfold x_take
  by_cases ho : σ.off = 0
  · rw [cif_pos ho]
    cases hf : x_find σ.now k n with
    | none => exact gX_err h 8
    | some it =>
      obtain ⟨i, t⟩ := it
      dsimp only
      by_cases h7 : k = 4 ∧ ¬ x_cch σ.now n 1 96 + x_cch σ.now n 0 96 = 0
      · rw [cif_pos h7]; exact gX_err h 7
      · rw [cif_neg h7]
        by_cases hc : 249 ≤ σ.ec + σ.sc
        · rw [cif_pos hc]; exact gX_err h 9
        · rw [cif_neg hc]
          refine gX_gone (gX_one h i none ho hc (w_G_take h.1.1.1 ?_)) _ ho ?_
          · intro j h1 h2 u hu hi
            rcases (x_find_some hf).2 with ⟨h4, -, hn⟩ | ⟨-, h5, -⟩
            · have hz : x_cch σ.now n 1 96 + x_cch σ.now n 0 96 = 0 := Classical.byContradiction fun z => h7 ⟨h4, z⟩
              have e1 := x_cch_0 96 (show x_cch σ.now n 1 96 = 0 by omega) (j - 64) (by omega)
              have e2 := x_cch_0 96 (show x_cch σ.now n 0 96 = 0 by omega) (j - 64) (by omega)
              have hu : σ.now (64 + (j - 64)) = some u := by rw [show 64 + (j - 64) = j by omega]; exact hu
              have z1 := x_inch_0 hu e1
              have z2 := x_inch_0 hu e2
              rw [if_neg (by decide)] at z1
              rw [if_pos rfl] at z2
              rw [← hn]
              exact ⟨z1, z2⟩
            · exact absurd hi (by omega)
          · intro j hj
            by_cases q : j = i
            · subst q; rw [pk_us]; exact Or.inr rfl
            · rw [pk_un q]; exact h.1.2.2.2.1.2.2 j hj
  · rw [cif_neg ho]; exact h
theorem gX_done {σ : gS} (h : gX σ) : gX (x_done σ).1 := by
  unfold x_done
  have hb := h.1.hb
  by_cases ho : σ.off = 0
  · rw [cif_pos ho]
    by_cases h1 : σ.ins = 0 ∧ ¬ x_room σ σ.sc
    · rw [cif_pos h1]; exact gX_err (gX_undo h) 9
    · rw [cif_neg h1]
      by_cases h2 : σ.ins = 0 ∧ 0 < σ.sc ∧ s_cut σ (σ.sc + 1)
      · rw [cif_pos h2]; exact gX_keepF h (Nat.le_trans h2.2.2.2 (by omega))
      · rw [cif_neg h2]
        by_cases h3 : σ.ins = 0 ∧ 0 < σ.sc
        · rw [cif_pos h3]
          have hr : x_room σ σ.sc := Classical.byContradiction fun z => h1 ⟨h3.1, z⟩
          unfold x_room x_wf at hr
          rw [if_neg (by omega)] at hr
          exact gX_closeK h ho h3.1 h3.2 hr
        · rw [cif_neg h3]
          by_cases h4 : σ.ins = 0
          · have hs : σ.sc = 0 := Nat.eq_zero_of_not_pos (fun z => h3 ⟨h4, z⟩)
            exact gX_close0 h h4 hs
          · exact gX_close1 h ho h4
  · rw [cif_neg ho]; exact h
theorem gX_begin {σ : gS} (h : gX σ) : gX (x_begin σ).1 := by
  unfold x_begin
  by_cases h1 : σ.off = 0 ∧ σ.ins = 0
  · rw [cif_pos h1]
    refine gX_ins1 (gX_undo h) ?_
    unfold s_undo
    by_cases hs : σ.sc = 0
    · rw [if_pos hs]; exact h1.1
    · rw [if_neg hs]; exact h1.1
  · rw [cif_neg h1]; exact h
theorem gX_commit {σ : gS} (h : gX σ) : gX (x_commit σ).1 := by
  unfold x_commit
  have hb := h.1.hb
  by_cases ho : σ.off = 0
  · rw [cif_pos ho]
    by_cases hi : σ.ins = 0
    · rw [cif_pos hi]; exact h
    · rw [cif_neg hi]
      have hc := gX_close1 h ho hi
      obtain ⟨y1, y2, y3, y4, y5, y6, y7, y8, -⟩ := s_close_I (σ := σ) hi
      have hb := hc.1.hb
      unfold x_com1
      by_cases hr : x_room (s_close σ) (s_close σ).ec
      · rw [cif_pos hr]
        by_cases h2 : 0 < (s_close σ).ec ∧ s_cut (s_close σ) ((s_close σ).ec + 1)
        · rw [cif_pos h2]; exact gX_keepF hc (Nat.le_trans h2.2.2 (by omega))
        · rw [cif_neg h2]
          by_cases h3 : 0 < (s_close σ).ec
          · rw [cif_pos h3]
            unfold x_room x_wf at hr
            rw [if_neg (by omega)] at hr
            exact gX_forgetK hc (y5.trans ho) y2 hr
          · rw [cif_neg h3]
            exact gX_forget0 hc (y5.trans ho) y2 (by omega)
      · rw [cif_neg hr]; exact hc
  · rw [cif_neg ho]; exact h
theorem gX_rollback {σ : gS} (h : gX σ) : gX (x_rollback σ).1 := by
  unfold x_rollback
  by_cases hi : σ.ins = 0
  · rw [cif_pos hi]; exact h
  · rw [cif_neg hi]; exact gX_restore h hi
theorem gX_checkpoint {σ : gS} (h : gX σ) : gX (x_checkpoint σ).1 := by
  unfold x_checkpoint
  by_cases ho : σ.off = 0
  · rw [cif_pos ho]
    by_cases h1 : σ.ins = 0 ∧ σ.sc = 0
    · rw [cif_pos h1]
      by_cases h2 : s_cut σ (x_many σ)
      · rw [cif_pos h2]; exact gX_offF h
      · rw [cif_neg h2]; exact gX_ckpt h _
    · rw [cif_neg h1]; exact h
  · rw [cif_neg ho]; exact h
theorem gX_cut {σ : gS} (h : gX σ) (n : Int32) : gX (x_cut σ n).1 := by
  unfold x_cut
  by_cases h1 : σ.off = 0 ∧ ¬ n < 0 ∧ n ≤ 2000
  · rw [cif_pos h1]
    obtain ⟨j, hj, rfl⟩ := nI_of2 (M := 2000) (n := 2000) (by decide) h1.2.1 h1.2.2
    rw [nI_clamp (by omega)]
    exact gX_due h j hj
  · rw [cif_neg h1]; exact h
theorem gX_type {σ : gS} (h : gX σ) (y : Int64) (n : Int32) : gX (x_type σ y n).1 := by
  unfold x_type
  by_cases hg : t_good y n σ.tape.length
  · rw [cif_pos hg]
    obtain ⟨N, rfl, h1, h2, h3, h4⟩ := hg
    rw [nI_clamp (by omega)]
    refine gX_tape h _ (by rw [List.length_append, t_acc_len]; exact h3) (fun z hz => ?_)
    rcases List.mem_append.mp hz with q | q
    · exact h.1.2.1.2 z q
    · unfold t_acc at q
      obtain ⟨i, hi, e⟩ := List.mem_map.mp q
      rw [List.mem_range] at hi
      rw [← e]
      exact h4 _ (by omega)
  · rw [cif_neg hg]; exact h
/-! the k-th link is one -/
theorem x_kth_uniq {γ : Nat → Option gT} {d o k r r' : Int32} (h : x_kth γ d o k r) (h' : x_kth γ d o k r') : r = r' := by
  have key : ∀ i j, i < 96 → j < 96 → ¬ x_inch γ i d o = 0 → ¬ x_inch γ j d o = 0 → nI (x_cch γ d o i) = nI (x_cch γ d o j) → i = j := fun i j hi hj h1 h2 e => by
    have e := (nI_eq (by have := x_cch_le γ d o i; omega) (by have := x_cch_le γ d o j; omega)).mp e
    rcases Nat.lt_trichotomy i j with q | q | q
    · have z1 := x_cch_mono γ d o (show i + 1 ≤ j by omega)
      have z2 : x_cch γ d o (i + 1) = x_cch γ d o i + x_inch γ i d o := rfl
      omega
    · exact q
    · have z1 := x_cch_mono γ d o (show j + 1 ≤ i by omega)
      have z2 : x_cch γ d o (j + 1) = x_cch γ d o j + x_inch γ j d o := rfl
      omega
  rcases h with ⟨i, hi, e, h1, h2⟩ | ⟨e, h1⟩ <;> rcases h' with ⟨j, hj, e', h1', h2'⟩ | ⟨e', h1'⟩
  · rw [e, e', key i j hi hj h1 h1' (h2.symm.trans h2')]
  · exact absurd h2.symm (h1' i hi h1)
  · exact absurd h2'.symm (h1 j hj h1')
  · rw [e, e']
