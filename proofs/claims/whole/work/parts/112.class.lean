noncomputable def f4_findRoute (σ : SI) : SI := let s0 := (f4_setOut σ); let s1 := sp s0 32 9 (0 : Int32); let s2 := sp s1 32 10 (0 : Int32); let s3 := sp s2 32 11 (0 : Int32); let s4 := sp s3 32 12 (s0 24 2); let s5 := (f4_go s4 (0 : Int32) (0 : Int32) (0 : Int32)); s5
theorem w_f4_findRoute (σ : SI) (a : Nat) (h0 : a ≠ 13) (h1 : a ≠ 15) (h2 : a ≠ 32) : (f4_findRoute σ) a = σ a := by
  unfold f4_findRoute
  exact ((w_f4_go _ _ _ _ a h0 h1 h2).trans ((sp_n h2).trans ((sp_n h2).trans ((sp_n h2).trans ((sp_n h2).trans (w_f4_setOut _ a h2))))))
set_option maxHeartbeats 4000000 in
set_option maxRecDepth 100000 in
theorem c4_findRoute (l : Launch) (G : GT) (σ : SI) (τ : SL) : Mc l yX4_findRoute cX4_findRoute 1 none 29 G [.ref (G.2.1 32)] σ τ (Qv G (Ev (f4_findRoute σ) τ)) := by
  refine m_start (by decide +kernel) (Nat.le_of_ble_eq_true rfl) rfl (fun p e s m args below meth c ls X I hl => ?_)
  have hl : lv_has ls 1 [(0, .ref (G.2.1 32))] := hl
  obtain ⟨E, hE⟩ : ∃ E, E = (f4_findRoute σ) := ⟨_, rfl⟩
  rw [← hE]
  refine lv_aload_n X.1 X.2.1 dX4_findRoute_0 rfl (lv_at hl 0 rfl) ?_
  refine r_ev I (r_runV X I pk_X4_setOut (c4_setOut l G _ _) lm_X4_99 (by decide) (cl_4 rfl) rfl rfl rfl hl.1 rfl (Nat.le_of_ble_eq_true rfl) dX4_findRoute_1 ⟨Nat.le_of_ble_eq_true rfl, Nat.le_of_ble_eq_true rfl⟩ ⟨Nat.le_refl 0, Nat.le_refl 0⟩) (fun H locs I => ?_)
  refine lv_aload_n X.1 X.2.1 dX4_findRoute_4 rfl (lv_at hl 0 rfl) ?_
  refine lv_iconst (v := 0) X.1 X.2.1 dX4_findRoute_5 (by decide) ?_
  refine p4_9 X I (k := 32) (by decide) rfl lf_X4_102 dX4_findRoute_6 (fun H locs I => ?_)
  refine lv_aload_n X.1 X.2.1 dX4_findRoute_9 rfl (lv_at hl 0 rfl) ?_
  refine lv_iconst (v := 0) X.1 X.2.1 dX4_findRoute_10 (by decide) ?_
  refine p4_10 X I (k := 32) (by decide) rfl lf_X4_105 dX4_findRoute_11 (fun H locs I => ?_)
  refine lv_aload_n X.1 X.2.1 dX4_findRoute_14 rfl (lv_at hl 0 rfl) ?_
  refine lv_iconst (v := 0) X.1 X.2.1 dX4_findRoute_15 (by decide) ?_
  refine p4_11 X I (k := 32) (by decide) rfl lf_X4_108 dX4_findRoute_16 (fun H locs I => ?_)
  refine lv_aload_n X.1 X.2.1 dX4_findRoute_19 rfl (lv_at hl 0 rfl) ?_
  refine lv_aload_n X.1 X.2.1 dX4_findRoute_20 rfl (lv_at hl 0 rfl) ?_
  refine g4_2 X I (k := 32) (by decide) rfl lf_X4_19 dX4_findRoute_21 ?_
  refine g0_2 X I (k := 24) (by decide) rfl lf_X4_29 dX4_findRoute_24 ?_
  refine p4_12 X I (k := 32) (by decide) rfl lf_X4_111 dX4_findRoute_27 (fun H locs I => ?_)
  refine lv_aload_n X.1 X.2.1 dX4_findRoute_30 rfl (lv_at hl 0 rfl) ?_
  refine lv_iconst (v := 0) X.1 X.2.1 dX4_findRoute_31 (by decide) ?_
  refine lv_iconst (v := 0) X.1 X.2.1 dX4_findRoute_32 (by decide) ?_
  refine lv_iconst (v := 0) X.1 X.2.1 dX4_findRoute_33 (by decide) ?_
  refine r_ev I (r_runV X I pk_X4_goOn (c4_go l G _ _ _ _ _ (by decide)) lm_X4_114 (by decide) (cl_4 rfl) rfl rfl rfl hl.1 rfl (Nat.le_of_ble_eq_true rfl) dX4_findRoute_34 ⟨Nat.le_of_ble_eq_true rfl, Nat.le_of_ble_eq_true rfl⟩ ⟨Nat.le_refl 0, Nat.le_refl 0⟩) (fun H locs I => ?_)
  have h9 := hE
  exact r_vret X I (e_v h9.symm rfl) dX4_findRoute_37
noncomputable def f5_forget (σ : SI) : SI := let s0 := sp σ 26 4 (0 : Int32); let s1 := sp s0 26 5 (0 : Int32); let s2 := sp s1 26 6 (0 : Int32); s2
theorem w_f5_forget (σ : SI) (a : Nat) (h0 : a ≠ 26) : (f5_forget σ) a = σ a := by
  unfold f5_forget
  exact ((sp_n h0).trans ((sp_n h0).trans (sp_n h0)))
set_option maxHeartbeats 4000000 in
set_option maxRecDepth 100000 in
theorem c5_forget (l : Launch) (G : GT) (σ : SI) (τ : SL) : Mc l yX5_forget cX5_forget 1 none 0 G [.ref (G.2.1 26)] σ τ (Qv G (Ev (f5_forget σ) τ)) := by
  refine m_start (by decide +kernel) (Nat.le_of_ble_eq_true rfl) rfl (fun p e s m args below meth c ls X I hl => ?_)
  have hl : lv_has ls 1 [(0, .ref (G.2.1 26))] := hl
  obtain ⟨E, hE⟩ : ∃ E, E = (f5_forget σ) := ⟨_, rfl⟩
  rw [← hE]
  refine lv_aload_n X.1 X.2.1 dX5_forget_0 rfl (lv_at hl 0 rfl) ?_
  refine lv_iconst (v := 0) X.1 X.2.1 dX5_forget_1 (by decide) ?_
  refine p5_4 X I (k := 26) (by decide) rfl lf_X5_29 dX5_forget_2 (fun H locs I => ?_)
  refine lv_aload_n X.1 X.2.1 dX5_forget_5 rfl (lv_at hl 0 rfl) ?_
  refine lv_iconst (v := 0) X.1 X.2.1 dX5_forget_6 (by decide) ?_
  refine p5_5 X I (k := 26) (by decide) rfl lf_X5_33 dX5_forget_7 (fun H locs I => ?_)
  refine lv_aload_n X.1 X.2.1 dX5_forget_10 rfl (lv_at hl 0 rfl) ?_
  refine lv_iconst (v := 0) X.1 X.2.1 dX5_forget_11 (by decide) ?_
  refine p5_6 X I (k := 26) (by decide) rfl lf_X5_36 rfl rfl dX5_forget_12 (fun H locs I => ?_)
  have h9 := hE
  exact r_vret X I (e_v h9.symm rfl) dX5_forget_15
noncomputable def f5_kept (σ : SI) : Int32 := (σ 26 4)
set_option maxHeartbeats 4000000 in
set_option maxRecDepth 100000 in
theorem c5_kept (l : Launch) (G : GT) (σ : SI) (τ : SL) : Mc l yX5_kept cX5_kept 1 (some .int) 0 G [.ref (G.2.1 26)] σ τ (Qi G (Ei (f5_kept σ) σ τ)) := by
  refine m_start (by decide +kernel) (Nat.le_of_ble_eq_true rfl) rfl (fun p e s m args below meth c ls X I hl => ?_)
  have hl : lv_has ls 1 [(0, .ref (G.2.1 26))] := hl
  obtain ⟨E, hE⟩ : ∃ E, E = (f5_kept σ) := ⟨_, rfl⟩
  rw [← hE]
  refine lv_aload_n X.1 X.2.1 dX5_kept_0 rfl (lv_at hl 0 rfl) ?_
  refine g5_4 X I (k := 26) (by decide) rfl lf_X5_29 dX5_kept_1 ?_
  have h9 := hE
  exact r_iret X I (e_i h9.symm rfl rfl) dX5_kept_4
noncomputable def f5_dayAt (x1 : Int32) : Option Nat := if x1 < (0 : Int32) then none else (if (40 : Int32) ≤ x1 then none else (some (43 + 2 * (Int32.toNatClampNeg x1))))
set_option maxHeartbeats 4000000 in
set_option maxRecDepth 100000 in
theorem c5_dayAt (l : Launch) (G : GT) (σ : SI) (τ : SL) (x1 : Int32) : Mc l yX5_dayAt cX5_dayAt 2 (some (.object "SaintCarried$Day")) 0 G [.ref (G.2.1 26), .int x1] σ τ (Qq G (Eq1 ((f5_dayAt x1).map G.2.1) σ τ)) := by
  refine m_start (by decide +kernel) (Nat.le_of_ble_eq_true rfl) rfl (fun p e s m args below meth c ls X I hl => ?_)
  have hl : lv_has ls 2 [(0, .ref (G.2.1 26)), (1, .int x1)] := hl
  obtain ⟨E, hE⟩ : ∃ E, E = (f5_dayAt x1) := ⟨_, rfl⟩
  rw [← hE]
  refine lv_iload_n X.1 X.2.1 dX5_dayAt_0 rfl (lv_at hl 1 rfl) ?_
  refine lv_if_lt (tgt := 22) X.1 X.2.1 dX5_dayAt_1 (by decide) (fun c_1 => ?_) (fun c_1 => ?_)
  · skip
    have hE := ite_t hE c_1
    refine lv_null X.1 X.2.1 dX5_dayAt_22 ?_
    have h9 := hE
    exact r_qret (v := none) X I (Or.inl ⟨_, rfl⟩) (e_q (congrArg (Option.map G.2.1) h9).symm rfl rfl) dX5_dayAt_23
  · skip
    have hE := ite_f hE c_1
    refine lv_iload_n X.1 X.2.1 dX5_dayAt_4 rfl (lv_at hl 1 rfl) ?_
    refine lv_aload_n X.1 X.2.1 dX5_dayAt_5 rfl (lv_at hl 0 rfl) ?_
    refine g5_0 X I (k := 26) (by decide) rfl lf_X5_11 dX5_dayAt_6 ?_
    refine r_alen20 X I (k := 27) (by decide) rfl dX5_dayAt_9 ?_
    refine lv_icmp_ge (tgt := 22) X.1 X.2.1 dX5_dayAt_10 (by decide) (fun c_2 => ?_) (fun c_2 => ?_)
    · skip
      have hE := ite_t hE c_2
      refine lv_null X.1 X.2.1 dX5_dayAt_22 ?_
      have h9 := hE
      exact r_qret (v := none) X I (Or.inl ⟨_, rfl⟩) (e_q (congrArg (Option.map G.2.1) h9).symm rfl rfl) dX5_dayAt_23
    · skip
      have hE := ite_f hE c_2
      refine lv_aload_n X.1 X.2.1 dX5_dayAt_13 rfl (lv_at hl 0 rfl) ?_
      refine g5_0 X I (k := 26) (by decide) rfl lf_X5_11 dX5_dayAt_14 ?_
      refine lv_iload_n X.1 X.2.1 dX5_dayAt_17 rfl (lv_at hl 1 rfl) ?_
      refine r_dayld X I (k := 27) (by decide) rfl (vp_g (n := 40) (by decide) c_1 c_2) dX5_dayAt_18 ?_
      refine lv_goto (tgt := 23) X.1 X.2.1 dX5_dayAt_19 (by decide) ?_
      have h9 := hE
      exact r_qret (v := some _) X I (Or.inl ⟨_, rfl⟩) (e_q (congrArg (Option.map G.2.1) h9).symm rfl rfl) dX5_dayAt_23
theorem day_fact {x1 : Int32} {k : Nat} (h : f5_dayAt x1 = some k) : isDay k := by
  unfold f5_dayAt at h
  split at h
  · cases h
  · split at h
    · cases h
    · next h1 h2 =>
      obtain ⟨j, hj, rfl⟩ := nI_of h1
      have h3 : ¬ nI 40 ≤ nI j := h2
      rw [nI_leI (by decide) hj] at h3
      rw [nI_clamp hj] at h
      have h4 : 43 + 2 * j = k := Option.some.inj h
      subst h4
      exact day_all j (by omega)
theorem day_rng {x1 : Int32} {k : Nat} (h : f5_dayAt x1 = some k) : 43 ≤ k ∧ k + 1 < 123 := by
  unfold f5_dayAt at h
  split at h
  · cases h
  · split at h
    · cases h
    · next h1 h2 =>
      obtain ⟨j, hj, rfl⟩ := nI_of h1
      have h3 : ¬ nI 40 ≤ nI j := h2
      rw [nI_leI (by decide) hj] at h3
      rw [nI_clamp hj] at h
      have h4 : 43 + 2 * j = k := Option.some.inj h
      omega
noncomputable def f5_keep (k1 : Nat) (σ : SI) : SI := oq (f5_dayAt (σ 26 5)) (if (σ 26 5) < (39 : Int32) then (let s0 := sp σ 26 5 ((σ 26 5) + (1 : Int32)); let s1 := sp s0 26 4 (if ((σ 26 4) + (1 : Int32)) < (40 : Int32) then ((σ 26 4) + (1 : Int32)) else (40 : Int32)); s1) else (let s2 := sp σ 26 5 (0 : Int32); let s3 := sp s2 26 4 (if ((σ 26 4) + (1 : Int32)) < (40 : Int32) then ((σ 26 4) + (1 : Int32)) else (40 : Int32)); s3)) (fun o_1k => let s4 := (f0_copy o_1k k1 σ); if (s4 26 5) < (39 : Int32) then (let s5 := sp s4 26 5 ((s4 26 5) + (1 : Int32)); let s6 := sp s5 26 4 (if ((s4 26 4) + (1 : Int32)) < (40 : Int32) then ((s4 26 4) + (1 : Int32)) else (40 : Int32)); s6) else (let s7 := sp s4 26 5 (0 : Int32); let s8 := sp s7 26 4 (if ((s4 26 4) + (1 : Int32)) < (40 : Int32) then ((s4 26 4) + (1 : Int32)) else (40 : Int32)); s8))
set_option maxHeartbeats 4000000 in
set_option maxRecDepth 100000 in
theorem c5_keep (l : Launch) (G : GT) {k1 : Nat} (hk1 : isDay k1) (σ : SI) (τ : SL) : Mc l yX5_keep cX5_keep 3 none 3 G [.ref (G.2.1 26), .ref (G.2.1 k1)] σ τ (Qv G (Ev (f5_keep k1 σ) τ)) := by
  refine m_start (by decide +kernel) (Nat.le_of_ble_eq_true rfl) rfl (fun p e s m args below meth c ls X I hl => ?_)
  have hl : lv_has ls 3 [(0, .ref (G.2.1 26)), (1, .ref (G.2.1 k1))] := hl
  obtain ⟨E, hE⟩ : ∃ E, E = (f5_keep k1 σ) := ⟨_, rfl⟩
  rw [← hE]
  refine lv_aload_n X.1 X.2.1 dX5_keep_0 rfl (lv_at hl 0 rfl) ?_
  refine lv_aload_n X.1 X.2.1 dX5_keep_1 rfl (lv_at hl 0 rfl) ?_
  refine g5_5 X I (k := 26) (by decide) rfl lf_X5_33 dX5_keep_2 ?_
  refine r_eqs I (r_runV X I pk_X5_dayAt (c5_dayAt l G _ _ _) lm_X5_40 (by decide) (cl_5 rfl) rfl rfl rfl hl.1 rfl (Nat.le_of_ble_eq_true rfl) dX5_keep_5 ⟨Nat.le_of_ble_eq_true rfl, Nat.le_of_ble_eq_true rfl⟩ ⟨Nat.le_refl 0, Nat.le_refl 0⟩) (fun o_1 H locs I => ?_) (fun o_1k ho_1 H locs I => ?_)
  · skip
    have hE := hE.trans (oq_none o_1)
    refine lv_astore_nN (lv' := [(2, .null), (0, .ref _), (1, .ref _)]) X.1 X.2.1 dX5_keep_8 rfl hl (by decide) rfl (fun ls hl => ?_)
    refine lv_aload_nN X.1 X.2.1 dX5_keep_9 rfl (lv_at hl 0 rfl) ?_
    refine lv_ifnullN (tgt := 18) X.1 X.2.1 dX5_keep_10 (by decide) ?_
    refine lv_aload_n X.1 X.2.1 dX5_keep_18 rfl (lv_at hl 1 rfl) ?_
    refine lv_aload_n X.1 X.2.1 dX5_keep_19 rfl (lv_at hl 1 rfl) ?_
    refine g5_5 X I (k := 26) (by decide) rfl lf_X5_33 dX5_keep_20 ?_
    refine lv_bipush (v := 39) X.1 X.2.1 dX5_keep_23 (by decide) ?_
    refine lv_icmp_lt (tgt := 32) X.1 X.2.1 dX5_keep_25 (by decide) (fun c_2 => ?_) (fun c_2 => ?_)
    · skip
      have hE := ite_t hE c_2
      refine lv_aload_n X.1 X.2.1 dX5_keep_32 rfl (lv_at hl 1 rfl) ?_
      refine g5_5 X I (k := 26) (by decide) rfl lf_X5_33 dX5_keep_33 ?_
      refine lv_iconst (v := 1) X.1 X.2.1 dX5_keep_36 (by decide) ?_
      refine lv_iadd X.1 X.2.1 dX5_keep_37 ?_
      refine p5_5 X I (k := 26) (by decide) rfl lf_X5_33 dX5_keep_38 (fun H locs I => ?_)
      refine lv_aload_n X.1 X.2.1 dX5_keep_41 rfl (lv_at hl 1 rfl) ?_
      refine lv_bipush (v := 40) X.1 X.2.1 dX5_keep_42 (by decide) ?_
      refine lv_aload_n X.1 X.2.1 dX5_keep_44 rfl (lv_at hl 1 rfl) ?_
      refine g5_4 X I (k := 26) (by decide) rfl lf_X5_29 dX5_keep_45 ?_
      refine lv_iconst (v := 1) X.1 X.2.1 dX5_keep_48 (by decide) ?_
      refine lv_iadd X.1 X.2.1 dX5_keep_49 ?_
      refine r_mmin X hl.1 lm_X5_48 ls_J9_min_7cf53 ln_J9 lc_J9_min_7cf53 (Nat.le_of_ble_eq_true rfl) (Nat.le_of_ble_eq_true rfl) (Nat.le_refl 0) (Nat.le_refl 0) dX5_keep_50 ?_
      refine p5_4 X I (k := 26) (by decide) rfl lf_X5_29 dX5_keep_53 (fun H locs I => ?_)
      have h9 := hE
      exact r_vret X I (e_v h9.symm rfl) dX5_keep_56
    · skip
      have hE := ite_f hE c_2
      refine lv_iconst (v := 0) X.1 X.2.1 dX5_keep_28 (by decide) ?_
      refine lv_goto (tgt := 38) X.1 X.2.1 dX5_keep_29 (by decide) ?_
      refine p5_5 X I (k := 26) (by decide) rfl lf_X5_33 dX5_keep_38 (fun H locs I => ?_)
      refine lv_aload_n X.1 X.2.1 dX5_keep_41 rfl (lv_at hl 1 rfl) ?_
      refine lv_bipush (v := 40) X.1 X.2.1 dX5_keep_42 (by decide) ?_
      refine lv_aload_n X.1 X.2.1 dX5_keep_44 rfl (lv_at hl 1 rfl) ?_
      refine g5_4 X I (k := 26) (by decide) rfl lf_X5_29 dX5_keep_45 ?_
      refine lv_iconst (v := 1) X.1 X.2.1 dX5_keep_48 (by decide) ?_
      refine lv_iadd X.1 X.2.1 dX5_keep_49 ?_
      refine r_mmin X hl.1 lm_X5_48 ls_J9_min_7cf53 ln_J9 lc_J9_min_7cf53 (Nat.le_of_ble_eq_true rfl) (Nat.le_of_ble_eq_true rfl) (Nat.le_refl 0) (Nat.le_refl 0) dX5_keep_50 ?_
      refine p5_4 X I (k := 26) (by decide) rfl lf_X5_29 dX5_keep_53 (fun H locs I => ?_)
      have h9 := hE
      exact r_vret X I (e_v h9.symm rfl) dX5_keep_56
  · skip
    have hko_1 := day_fact ho_1
    have hE := hE.trans (oq_some ho_1)
    refine lv_astore_n (lv' := [(2, .ref _), (0, .ref _), (1, .ref _)]) X.1 X.2.1 dX5_keep_8 rfl hl (by decide) rfl (fun ls hl => ?_)
    refine lv_aload_n X.1 X.2.1 dX5_keep_9 rfl (lv_at hl 0 rfl) ?_
    refine lv_ifnull X.1 X.2.1 dX5_keep_10 ?_
    refine lv_aload_n X.1 X.2.1 dX5_keep_13 rfl (lv_at hl 0 rfl) ?_
    refine lv_aload_n X.1 X.2.1 dX5_keep_14 rfl (lv_at hl 2 rfl) ?_
    refine r_ev I (r_runV X I pk_X0_copy (c0_copy l G (k := o_1k) hko_1 (k1 := k1) hk1 _ _) lm_X5_44 (Nat.lt_of_le_of_lt (Nat.add_le_add_left (show 0 ≤ 1 by decide) o_1k) hko_1.1) (cl_0 hko_1.2.1) rfl rfl rfl hl.1 rfl (Nat.le_of_ble_eq_true rfl) dX5_keep_15 ⟨Nat.le_of_ble_eq_true rfl, Nat.le_of_ble_eq_true rfl⟩ ⟨Nat.le_refl 0, Nat.le_refl 0⟩) (fun H locs I => ?_)
    refine lv_aload_n X.1 X.2.1 dX5_keep_18 rfl (lv_at hl 1 rfl) ?_
    refine lv_aload_n X.1 X.2.1 dX5_keep_19 rfl (lv_at hl 1 rfl) ?_
    refine g5_5 X I (k := 26) (by decide) rfl lf_X5_33 dX5_keep_20 ?_
    refine lv_bipush (v := 39) X.1 X.2.1 dX5_keep_23 (by decide) ?_
    refine lv_icmp_lt (tgt := 32) X.1 X.2.1 dX5_keep_25 (by decide) (fun c_3 => ?_) (fun c_3 => ?_)
    · skip
      have hE := ite_t hE c_3
      refine lv_aload_n X.1 X.2.1 dX5_keep_32 rfl (lv_at hl 1 rfl) ?_
      refine g5_5 X I (k := 26) (by decide) rfl lf_X5_33 dX5_keep_33 ?_
      refine lv_iconst (v := 1) X.1 X.2.1 dX5_keep_36 (by decide) ?_
      refine lv_iadd X.1 X.2.1 dX5_keep_37 ?_
      refine p5_5 X I (k := 26) (by decide) rfl lf_X5_33 dX5_keep_38 (fun H locs I => ?_)
      refine lv_aload_n X.1 X.2.1 dX5_keep_41 rfl (lv_at hl 1 rfl) ?_
      refine lv_bipush (v := 40) X.1 X.2.1 dX5_keep_42 (by decide) ?_
      refine lv_aload_n X.1 X.2.1 dX5_keep_44 rfl (lv_at hl 1 rfl) ?_
      refine g5_4 X I (k := 26) (by decide) rfl lf_X5_29 dX5_keep_45 ?_
      refine lv_iconst (v := 1) X.1 X.2.1 dX5_keep_48 (by decide) ?_
      refine lv_iadd X.1 X.2.1 dX5_keep_49 ?_
      refine r_mmin X hl.1 lm_X5_48 ls_J9_min_7cf53 ln_J9 lc_J9_min_7cf53 (Nat.le_of_ble_eq_true rfl) (Nat.le_of_ble_eq_true rfl) (Nat.le_refl 0) (Nat.le_refl 0) dX5_keep_50 ?_
      refine p5_4 X I (k := 26) (by decide) rfl lf_X5_29 dX5_keep_53 (fun H locs I => ?_)
      have h9 := hE
      exact r_vret X I (e_v h9.symm rfl) dX5_keep_56
    · skip
      have hE := ite_f hE c_3
      refine lv_iconst (v := 0) X.1 X.2.1 dX5_keep_28 (by decide) ?_
      refine lv_goto (tgt := 38) X.1 X.2.1 dX5_keep_29 (by decide) ?_
      refine p5_5 X I (k := 26) (by decide) rfl lf_X5_33 dX5_keep_38 (fun H locs I => ?_)
      refine lv_aload_n X.1 X.2.1 dX5_keep_41 rfl (lv_at hl 1 rfl) ?_
      refine lv_bipush (v := 40) X.1 X.2.1 dX5_keep_42 (by decide) ?_
      refine lv_aload_n X.1 X.2.1 dX5_keep_44 rfl (lv_at hl 1 rfl) ?_
      refine g5_4 X I (k := 26) (by decide) rfl lf_X5_29 dX5_keep_45 ?_
      refine lv_iconst (v := 1) X.1 X.2.1 dX5_keep_48 (by decide) ?_
      refine lv_iadd X.1 X.2.1 dX5_keep_49 ?_
      refine r_mmin X hl.1 lm_X5_48 ls_J9_min_7cf53 ln_J9 lc_J9_min_7cf53 (Nat.le_of_ble_eq_true rfl) (Nat.le_of_ble_eq_true rfl) (Nat.le_refl 0) (Nat.le_refl 0) dX5_keep_50 ?_
      refine p5_4 X I (k := 26) (by decide) rfl lf_X5_29 dX5_keep_53 (fun H locs I => ?_)
      have h9 := hE
      exact r_vret X I (e_v h9.symm rfl) dX5_keep_56
theorem w_f5_keep {k1 : Nat} (σ : SI) (a : Nat) (h0 : a ≠ 26) (hL : a < 43 ∨ 123 ≤ a) : f5_keep k1 σ a = σ a := by
  unfold f5_keep
  (try dsimp only)
  refine oq_all (P := fun (z : SI) => z a = σ a) (fun _ => ?_) (fun k hk => ?_)
  · (repeat' split) <;> (first | with_reducible rfl | (simp only [sp_n, su_n, ne_eq, not_false_eq_true, h0]; done))
  · obtain ⟨r1, r2⟩ := day_rng hk
    have e1 : a ≠ k := by omega
    have e2 : a ≠ k + 1 := by omega
    (repeat' split) <;> (first | with_reducible rfl | (simp only [sp_n, su_n, ne_eq, not_false_eq_true, h0, e1, e2, w_f0_copy]; done))
noncomputable def f5_takeBack (k1 : Nat) (σ : SI) : Bool × SI := if (0 : Int32) < (σ 26 4) then (if (0 : Int32) < (σ 26 5) then (let s0 := sp σ 26 5 ((σ 26 5) - (1 : Int32)); let s1 := sp s0 26 4 ((σ 26 4) - (1 : Int32)); oq (f5_dayAt ((σ 26 5) - (1 : Int32))) ((true, s1)) (fun o_3k => let s2 := (f0_copy k1 o_3k s1); (true, s2))) else (let s3 := sp σ 26 5 (39 : Int32); let s4 := sp s3 26 4 ((σ 26 4) - (1 : Int32)); oq (f5_dayAt (39 : Int32)) ((true, s4)) (fun o_4k => let s5 := (f0_copy k1 o_4k s4); (true, s5)))) else (false, σ)
theorem w_f5_takeBack {k1 : Nat} (σ : SI) (a : Nat) (h0 : a ≠ 26) (h1 : a ≠ (k1 + 1)) (h2 : a ≠ k1) : (f5_takeBack k1 σ).2 a = σ a := by
  refine fp_to2 ?_
  unfold f5_takeBack
  exact (fr_ite2 (fr_ite2 (oq_all (P := fun (z : Bool × SI) => Fp2 z a (σ a)) (fun _ => (fr_mk21 ((sp_n h0).trans (sp_n h0)))) (fun o_3k ho_3k => (fr_mk21 ((w_f0_copy _ a h1 h2).trans ((sp_n h0).trans (sp_n h0)))))) (oq_all (P := fun (z : Bool × SI) => Fp2 z a (σ a)) (fun _ => (fr_mk21 ((sp_n h0).trans (sp_n h0)))) (fun o_4k ho_4k => (fr_mk21 ((w_f0_copy _ a h1 h2).trans ((sp_n h0).trans (sp_n h0))))))) (fr_mk21 rfl))
set_option maxHeartbeats 4000000 in
set_option maxRecDepth 100000 in
theorem c5_takeBack (l : Launch) (G : GT) {k1 : Nat} (hk1 : isDay k1) (σ : SI) (τ : SL) : Mc l yX5_takeBack cX5_takeBack 3 (some .boolean) 3 G [.ref (G.2.1 26), .ref (G.2.1 k1)] σ τ (Qi G (Ei (b2i (f5_takeBack k1 σ).1) (f5_takeBack k1 σ).2 τ)) := by
  refine m_start (by decide +kernel) (Nat.le_of_ble_eq_true rfl) rfl (fun p e s m args below meth c ls X I hl => ?_)
  have hl : lv_has ls 3 [(0, .ref (G.2.1 26)), (1, .ref (G.2.1 k1))] := hl
  obtain ⟨E, hE⟩ : ∃ E, E = (f5_takeBack k1 σ) := ⟨_, rfl⟩
  rw [← hE]
  refine lv_aload_n X.1 X.2.1 dX5_takeBack_0 rfl (lv_at hl 0 rfl) ?_
  refine g5_4 X I (k := 26) (by decide) rfl lf_X5_29 dX5_takeBack_1 ?_
  refine lv_if_gt (tgt := 9) X.1 X.2.1 dX5_takeBack_4 (by decide) (fun c_1 => ?_) (fun c_1 => ?_)
  · skip
    have hE := ite_t hE c_1
    refine lv_aload_n X.1 X.2.1 dX5_takeBack_9 rfl (lv_at hl 0 rfl) ?_
    refine lv_aload_n X.1 X.2.1 dX5_takeBack_10 rfl (lv_at hl 0 rfl) ?_
    refine g5_5 X I (k := 26) (by decide) rfl lf_X5_33 dX5_takeBack_11 ?_
    refine lv_if_gt (tgt := 22) X.1 X.2.1 dX5_takeBack_14 (by decide) (fun c_2 => ?_) (fun c_2 => ?_)
    · skip
      have hE := ite_t hE c_2
      refine lv_aload_n X.1 X.2.1 dX5_takeBack_22 rfl (lv_at hl 0 rfl) ?_
      refine g5_5 X I (k := 26) (by decide) rfl lf_X5_33 dX5_takeBack_23 ?_
      refine lv_iconst (v := 1) X.1 X.2.1 dX5_takeBack_26 (by decide) ?_
      refine lv_isub X.1 X.2.1 dX5_takeBack_27 ?_
      refine p5_5 X I (k := 26) (by decide) rfl lf_X5_33 dX5_takeBack_28 (fun H locs I => ?_)
      refine lv_aload_n X.1 X.2.1 dX5_takeBack_31 rfl (lv_at hl 0 rfl) ?_
      refine lv_dup X.1 X.2.1 dX5_takeBack_32 rfl ?_
      refine g5_4 X I (k := 26) (by decide) rfl lf_X5_29 dX5_takeBack_33 ?_
      refine lv_iconst (v := 1) X.1 X.2.1 dX5_takeBack_36 (by decide) ?_
      refine lv_isub X.1 X.2.1 dX5_takeBack_37 ?_
      refine p5_4 X I (k := 26) (by decide) rfl lf_X5_29 dX5_takeBack_38 (fun H locs I => ?_)
      refine lv_aload_n X.1 X.2.1 dX5_takeBack_41 rfl (lv_at hl 0 rfl) ?_
      refine lv_aload_n X.1 X.2.1 dX5_takeBack_42 rfl (lv_at hl 0 rfl) ?_
      refine g5_5 X I (k := 26) (by decide) rfl lf_X5_33 dX5_takeBack_43 ?_
      refine r_eqs I (r_runV X I pk_X5_dayAt (c5_dayAt l G _ _ _) lm_X5_40 (by decide) (cl_5 rfl) rfl rfl rfl hl.1 rfl (Nat.le_of_ble_eq_true rfl) dX5_takeBack_46 ⟨Nat.le_of_ble_eq_true rfl, Nat.le_of_ble_eq_true rfl⟩ ⟨Nat.le_refl 0, Nat.le_refl 0⟩) (fun o_3 H locs I => ?_) (fun o_3k ho_3 H locs I => ?_)
      · skip
        have hE := hE.trans (oq_none o_3)
        refine lv_astore_nN (lv' := [(2, .null), (0, .ref _), (1, .ref _)]) X.1 X.2.1 dX5_takeBack_49 rfl hl (by decide) rfl (fun ls hl => ?_)
        refine lv_aload_nN X.1 X.2.1 dX5_takeBack_50 rfl (lv_at hl 0 rfl) ?_
        refine lv_ifnullN (tgt := 59) X.1 X.2.1 dX5_takeBack_51 (by decide) ?_
        refine lv_iconst (v := 1) X.1 X.2.1 dX5_takeBack_59 (by decide) ?_
        have h9 := hE
        exact r_zret X I rfl (e_i (congrArg b2i (pr_fst (a := true) h9)) (pr_snd h9) rfl) dX5_takeBack_60
      · skip
        have hko_3 := day_fact ho_3
        have hE := hE.trans (oq_some ho_3)
        refine lv_astore_n (lv' := [(2, .ref _), (0, .ref _), (1, .ref _)]) X.1 X.2.1 dX5_takeBack_49 rfl hl (by decide) rfl (fun ls hl => ?_)
        refine lv_aload_n X.1 X.2.1 dX5_takeBack_50 rfl (lv_at hl 0 rfl) ?_
        refine lv_ifnull X.1 X.2.1 dX5_takeBack_51 ?_
        refine lv_aload_n X.1 X.2.1 dX5_takeBack_54 rfl (lv_at hl 2 rfl) ?_
        refine lv_aload_n X.1 X.2.1 dX5_takeBack_55 rfl (lv_at hl 0 rfl) ?_
        refine r_ev I (r_runV X I pk_X0_copy (c0_copy l G (k := k1) hk1 (k1 := o_3k) hko_3 _ _) lm_X5_44 (Nat.lt_of_le_of_lt (Nat.add_le_add_left (show 0 ≤ 1 by decide) k1) hk1.1) (cl_0 hk1.2.1) rfl rfl rfl hl.1 rfl (Nat.le_of_ble_eq_true rfl) dX5_takeBack_56 ⟨Nat.le_of_ble_eq_true rfl, Nat.le_of_ble_eq_true rfl⟩ ⟨Nat.le_refl 0, Nat.le_refl 0⟩) (fun H locs I => ?_)
        refine lv_iconst (v := 1) X.1 X.2.1 dX5_takeBack_59 (by decide) ?_
        have h9 := hE
        exact r_zret X I rfl (e_i (congrArg b2i (pr_fst (a := true) h9)) (pr_snd h9) rfl) dX5_takeBack_60
    · skip
      have hE := ite_f hE c_2
      refine lv_bipush (v := 39) X.1 X.2.1 dX5_takeBack_17 (by decide) ?_
      refine lv_goto (tgt := 28) X.1 X.2.1 dX5_takeBack_19 (by decide) ?_
      refine p5_5 X I (k := 26) (by decide) rfl lf_X5_33 dX5_takeBack_28 (fun H locs I => ?_)
      refine lv_aload_n X.1 X.2.1 dX5_takeBack_31 rfl (lv_at hl 0 rfl) ?_
      refine lv_dup X.1 X.2.1 dX5_takeBack_32 rfl ?_
      refine g5_4 X I (k := 26) (by decide) rfl lf_X5_29 dX5_takeBack_33 ?_
      refine lv_iconst (v := 1) X.1 X.2.1 dX5_takeBack_36 (by decide) ?_
      refine lv_isub X.1 X.2.1 dX5_takeBack_37 ?_
      refine p5_4 X I (k := 26) (by decide) rfl lf_X5_29 dX5_takeBack_38 (fun H locs I => ?_)
      refine lv_aload_n X.1 X.2.1 dX5_takeBack_41 rfl (lv_at hl 0 rfl) ?_
      refine lv_aload_n X.1 X.2.1 dX5_takeBack_42 rfl (lv_at hl 0 rfl) ?_
      refine g5_5 X I (k := 26) (by decide) rfl lf_X5_33 dX5_takeBack_43 ?_
      refine r_eqs I (r_runV X I pk_X5_dayAt (c5_dayAt l G _ _ _) lm_X5_40 (by decide) (cl_5 rfl) rfl rfl rfl hl.1 rfl (Nat.le_of_ble_eq_true rfl) dX5_takeBack_46 ⟨Nat.le_of_ble_eq_true rfl, Nat.le_of_ble_eq_true rfl⟩ ⟨Nat.le_refl 0, Nat.le_refl 0⟩) (fun o_4 H locs I => ?_) (fun o_4k ho_4 H locs I => ?_)
      · skip
        have hE := hE.trans (oq_none o_4)
        refine lv_astore_nN (lv' := [(2, .null), (0, .ref _), (1, .ref _)]) X.1 X.2.1 dX5_takeBack_49 rfl hl (by decide) rfl (fun ls hl => ?_)
        refine lv_aload_nN X.1 X.2.1 dX5_takeBack_50 rfl (lv_at hl 0 rfl) ?_
        refine lv_ifnullN (tgt := 59) X.1 X.2.1 dX5_takeBack_51 (by decide) ?_
        refine lv_iconst (v := 1) X.1 X.2.1 dX5_takeBack_59 (by decide) ?_
        have h9 := hE
        exact r_zret X I rfl (e_i (congrArg b2i (pr_fst (a := true) h9)) (pr_snd h9) rfl) dX5_takeBack_60
      · skip
        have hko_4 := day_fact ho_4
        have hE := hE.trans (oq_some ho_4)
        refine lv_astore_n (lv' := [(2, .ref _), (0, .ref _), (1, .ref _)]) X.1 X.2.1 dX5_takeBack_49 rfl hl (by decide) rfl (fun ls hl => ?_)
        refine lv_aload_n X.1 X.2.1 dX5_takeBack_50 rfl (lv_at hl 0 rfl) ?_
        refine lv_ifnull X.1 X.2.1 dX5_takeBack_51 ?_
        refine lv_aload_n X.1 X.2.1 dX5_takeBack_54 rfl (lv_at hl 2 rfl) ?_
        refine lv_aload_n X.1 X.2.1 dX5_takeBack_55 rfl (lv_at hl 0 rfl) ?_
        refine r_ev I (r_runV X I pk_X0_copy (c0_copy l G (k := k1) hk1 (k1 := o_4k) hko_4 _ _) lm_X5_44 (Nat.lt_of_le_of_lt (Nat.add_le_add_left (show 0 ≤ 1 by decide) k1) hk1.1) (cl_0 hk1.2.1) rfl rfl rfl hl.1 rfl (Nat.le_of_ble_eq_true rfl) dX5_takeBack_56 ⟨Nat.le_of_ble_eq_true rfl, Nat.le_of_ble_eq_true rfl⟩ ⟨Nat.le_refl 0, Nat.le_refl 0⟩) (fun H locs I => ?_)
        refine lv_iconst (v := 1) X.1 X.2.1 dX5_takeBack_59 (by decide) ?_
        have h9 := hE
        exact r_zret X I rfl (e_i (congrArg b2i (pr_fst (a := true) h9)) (pr_snd h9) rfl) dX5_takeBack_60
  · skip
    have hE := ite_f hE c_1
    refine lv_iconst (v := 0) X.1 X.2.1 dX5_takeBack_7 (by decide) ?_
    have h9 := hE
    exact r_zret X I rfl (e_i (congrArg b2i (pr_fst (a := false) h9)) (pr_snd h9) rfl) dX5_takeBack_8
