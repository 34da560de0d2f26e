noncomputable def f1_add (k : Nat) (σ : SI) (x1 : Int32) : SI := if (σ k 1) < (0 : Int32) then σ else (if (240 : Int32) ≤ (σ k 1) then σ else (let s0 := sp σ (k + 1) (Int32.toNatClampNeg (σ k 1)) x1; let s1 := sp s0 k 1 ((s0 k 1) + (1 : Int32)); s1))
theorem w_f1_add {k : Nat} (σ : SI) (x1 : Int32) (a : Nat) (h0 : a ≠ (k + 1)) (h1 : a ≠ k) : (f1_add k σ x1) a = σ a := by
  unfold f1_add
  exact (fr_ite rfl (fr_ite rfl ((sp_n h1).trans (sp_n h0))))
set_option maxHeartbeats 4000000 in
set_option maxRecDepth 100000 in
theorem c1_add (l : Launch) (G : GT) {k : Nat} (hk : isLaw k) (σ : SI) (τ : SL) (x1 : Int32) : Mc l yX1_add cX1_add 2 none 0 G [.ref (G.2.1 k), .int x1] σ τ (Qv G (Ev (f1_add k σ x1) τ)) := by
  refine m_start (by decide +kernel) (Nat.le_of_ble_eq_true rfl) rfl (fun p e s m args below meth c ls X I hl => ?_)
  have hl : lv_has ls 2 [(0, .ref (G.2.1 k)), (1, .int x1)] := hl
  obtain ⟨E, hE⟩ : ∃ E, E = (f1_add k σ x1) := ⟨_, rfl⟩
  rw [← hE]
  refine lv_aload_n X.1 X.2.1 dX1_add_0 rfl (lv_at hl 0 rfl) ?_
  refine g1_1 X I (k := k) (Nat.lt_of_le_of_lt (Nat.add_le_add_left (show 0 ≤ 1 by decide) k) hk.1) hk.2.1 lf_X1_15 dX1_add_1 ?_
  refine lv_if_lt (tgt := 39) X.1 X.2.1 dX1_add_4 (by decide) (fun c_1 => ?_) (fun c_1 => ?_)
  · skip
    have hE := ite_t hE c_1
    have h9 := hE
    exact r_vret X I (e_v h9.symm rfl) dX1_add_39
  · skip
    have hE := ite_f hE c_1
    refine lv_aload_n X.1 X.2.1 dX1_add_7 rfl (lv_at hl 0 rfl) ?_
    refine g1_1 X I (k := k) (Nat.lt_of_le_of_lt (Nat.add_le_add_left (show 0 ≤ 1 by decide) k) hk.1) hk.2.1 lf_X1_15 dX1_add_8 ?_
    refine lv_aload_n X.1 X.2.1 dX1_add_11 rfl (lv_at hl 0 rfl) ?_
    refine g1_0 X I (k := k) (Nat.lt_of_le_of_lt (Nat.add_le_add_left (show 0 ≤ 1 by decide) k) hk.1) hk.2.1 lf_X1_9 dX1_add_12 ?_
    refine r_alen X I (k := (k + 1)) (n := 240) (Nat.lt_of_le_of_lt (Nat.add_le_add_left (show 1 ≤ 1 by decide) k) hk.1) hk.2.2 (v := 240) rfl dX1_add_15 ?_
    refine lv_icmp_ge (tgt := 39) X.1 X.2.1 dX1_add_16 (by decide) (fun c_2 => ?_) (fun c_2 => ?_)
    · skip
      have hE := ite_t hE c_2
      have h9 := hE
      exact r_vret X I (e_v h9.symm rfl) dX1_add_39
    · skip
      have hE := ite_f hE c_2
      refine lv_aload_n X.1 X.2.1 dX1_add_19 rfl (lv_at hl 0 rfl) ?_
      refine g1_0 X I (k := k) (Nat.lt_of_le_of_lt (Nat.add_le_add_left (show 0 ≤ 1 by decide) k) hk.1) hk.2.1 lf_X1_9 dX1_add_20 ?_
      refine lv_aload_n X.1 X.2.1 dX1_add_23 rfl (lv_at hl 0 rfl) ?_
      refine g1_1 X I (k := k) (Nat.lt_of_le_of_lt (Nat.add_le_add_left (show 0 ≤ 1 by decide) k) hk.1) hk.2.1 lf_X1_15 dX1_add_24 ?_
      refine lv_iload_n X.1 X.2.1 dX1_add_27 rfl (lv_at hl 1 rfl) ?_
      refine r_ast X I (k := (k + 1)) (n := 240) (Nat.lt_of_le_of_lt (Nat.add_le_add_left (show 1 ≤ 1 by decide) k) hk.1) hk.2.2 (vp_g (n := 240) (by decide) c_1 c_2) dX1_add_28 (fun H locs I => ?_)
      refine lv_aload_n X.1 X.2.1 dX1_add_29 rfl (lv_at hl 0 rfl) ?_
      refine lv_dup X.1 X.2.1 dX1_add_30 rfl ?_
      refine g1_1 X I (k := k) (Nat.lt_of_le_of_lt (Nat.add_le_add_left (show 0 ≤ 1 by decide) k) hk.1) hk.2.1 lf_X1_15 dX1_add_31 ?_
      refine lv_iconst (v := 1) X.1 X.2.1 dX1_add_34 (by decide) ?_
      refine lv_iadd X.1 X.2.1 dX1_add_35 ?_
      refine p1_1 X I (k := k) (Nat.lt_of_le_of_lt (Nat.add_le_add_left (show 0 ≤ 1 by decide) k) hk.1) hk.2.1 lf_X1_15 dX1_add_36 (fun H locs I => ?_)
      have h9 := hE
      exact r_vret X I (e_v h9.symm rfl) dX1_add_39
noncomputable def f1_size (k : Nat) (σ : SI) : Int32 := (σ k 1)
set_option maxHeartbeats 4000000 in
set_option maxRecDepth 100000 in
theorem c1_size (l : Launch) (G : GT) {k : Nat} (hk : isLaw k) (σ : SI) (τ : SL) : Mc l yX1_size cX1_size 1 (some .int) 0 G [.ref (G.2.1 k)] σ τ (Qi G (Ei (f1_size k σ) σ τ)) := by
  refine m_start (by decide +kernel) (Nat.le_of_ble_eq_true rfl) rfl (fun p e s m args below meth c ls X I hl => ?_)
  have hl : lv_has ls 1 [(0, .ref (G.2.1 k))] := hl
  obtain ⟨E, hE⟩ : ∃ E, E = (f1_size k σ) := ⟨_, rfl⟩
  rw [← hE]
  refine lv_aload_n X.1 X.2.1 dX1_size_0 rfl (lv_at hl 0 rfl) ?_
  refine g1_1 X I (k := k) (Nat.lt_of_le_of_lt (Nat.add_le_add_left (show 0 ≤ 1 by decide) k) hk.1) hk.2.1 lf_X1_15 dX1_size_1 ?_
  have h9 := hE
  exact r_iret X I (e_i h9.symm rfl rfl) dX1_size_4
noncomputable def f1_signAt (k : Nat) (σ : SI) (x1 : Int32) : Int32 := (f11_cell (k + 1) 240 σ x1)
set_option maxHeartbeats 4000000 in
set_option maxRecDepth 100000 in
theorem c1_signAt (l : Launch) (G : GT) {k : Nat} (hk : isLaw k) (σ : SI) (τ : SL) (x1 : Int32) : Mc l yX1_signAt cX1_signAt 2 (some .int) 1 G [.ref (G.2.1 k), .int x1] σ τ (Qi G (Ei (f1_signAt k σ x1) σ τ)) := by
  refine m_start (by decide +kernel) (Nat.le_of_ble_eq_true rfl) rfl (fun p e s m args below meth c ls X I hl => ?_)
  have hl : lv_has ls 2 [(0, .ref (G.2.1 k)), (1, .int x1)] := hl
  obtain ⟨E, hE⟩ : ∃ E, E = (f1_signAt k σ x1) := ⟨_, rfl⟩
  rw [← hE]
  refine lv_aload_n X.1 X.2.1 dX1_signAt_0 rfl (lv_at hl 0 rfl) ?_
  refine g1_0 X I (k := k) (Nat.lt_of_le_of_lt (Nat.add_le_add_left (show 0 ≤ 1 by decide) k) hk.1) hk.2.1 lf_X1_9 dX1_signAt_1 ?_
  refine lv_iload_n X.1 X.2.1 dX1_signAt_4 rfl (lv_at hl 1 rfl) ?_
  refine r_ei I (r_runN X I pk_X11_cell (c11_cell l G (k := (k + 1)) (n := 240) (Nat.lt_of_le_of_lt (Nat.add_le_add_left (show 1 ≤ 1 by decide) k) hk.1) hk.2.2 (by decide) _ _ _) (by decide +kernel) rfl hl.1 rfl (Nat.le_of_ble_eq_true rfl) dX1_signAt_5 ⟨Nat.le_of_ble_eq_true rfl, Nat.le_of_ble_eq_true rfl⟩ ⟨Nat.le_refl 0, Nat.le_refl 0⟩) (fun H locs I => ?_)
  have h9 := hE
  exact r_iret X I (e_i h9.symm rfl rfl) dX1_signAt_8
noncomputable def f2_number (σ : SI) : Int32 := (σ 13 2)
set_option maxHeartbeats 4000000 in
set_option maxRecDepth 100000 in
theorem c2_number (l : Launch) (G : GT) (σ : SI) (τ : SL) : Mc l yX2_number cX2_number 1 (some .int) 0 G [.ref (G.2.1 13)] σ τ (Qi G (Ei (f2_number σ) σ τ)) := by
  refine m_start (by decide +kernel) (Nat.le_of_ble_eq_true rfl) rfl (fun p e s m args below meth c ls X I hl => ?_)
  have hl : lv_has ls 1 [(0, .ref (G.2.1 13))] := hl
  obtain ⟨E, hE⟩ : ∃ E, E = (f2_number σ) := ⟨_, rfl⟩
  rw [← hE]
  refine lv_aload_n X.1 X.2.1 dX2_number_0 rfl (lv_at hl 0 rfl) ?_
  refine g2_2 X I (k := 13) (by decide) rfl lf_X2_26 dX2_number_1 ?_
  have h9 := hE
  exact r_iret X I (e_i h9.symm rfl rfl) dX2_number_4
noncomputable def f2_holding (σ : SI) : Int32 := (σ 13 3)
set_option maxHeartbeats 4000000 in
set_option maxRecDepth 100000 in
theorem c2_holding (l : Launch) (G : GT) (σ : SI) (τ : SL) : Mc l yX2_holding cX2_holding 1 (some .int) 0 G [.ref (G.2.1 13)] σ τ (Qi G (Ei (f2_holding σ) σ τ)) := by
  refine m_start (by decide +kernel) (Nat.le_of_ble_eq_true rfl) rfl (fun p e s m args below meth c ls X I hl => ?_)
  have hl : lv_has ls 1 [(0, .ref (G.2.1 13))] := hl
  obtain ⟨E, hE⟩ : ∃ E, E = (f2_holding σ) := ⟨_, rfl⟩
  rw [← hE]
  refine lv_aload_n X.1 X.2.1 dX2_holding_0 rfl (lv_at hl 0 rfl) ?_
  refine g2_3 X I (k := 13) (by decide) rfl lf_X2_22 dX2_holding_1 ?_
  have h9 := hE
  exact r_iret X I (e_i h9.symm rfl rfl) dX2_holding_4
noncomputable def f2_lawAt (x1 : Int32) : Option Nat := if x1 < (0 : Int32) then none else (if (4 : Int32) ≤ x1 then none else (some (16 + 2 * (Int32.toNatClampNeg x1))))
set_option maxHeartbeats 4000000 in
set_option maxRecDepth 100000 in
theorem c2_lawAt (l : Launch) (G : GT) (σ : SI) (τ : SL) (x1 : Int32) : Mc l yX2_lawAt cX2_lawAt 2 (some (.object "SaintCarried$Law")) 0 G [.ref (G.2.1 13), .int x1] σ τ (Qq G (Eq1 ((f2_lawAt x1).map G.2.1) σ τ)) := by
  refine m_start (by decide +kernel) (Nat.le_of_ble_eq_true rfl) rfl (fun p e s m args below meth c ls X I hl => ?_)
  have hl : lv_has ls 2 [(0, .ref (G.2.1 13)), (1, .int x1)] := hl
  obtain ⟨E, hE⟩ : ∃ E, E = (f2_lawAt x1) := ⟨_, rfl⟩
  rw [← hE]
  refine lv_iload_n X.1 X.2.1 dX2_lawAt_0 rfl (lv_at hl 1 rfl) ?_
  refine lv_if_lt (tgt := 22) X.1 X.2.1 dX2_lawAt_1 (by decide) (fun c_1 => ?_) (fun c_1 => ?_)
  · skip
    have hE := ite_t hE c_1
    refine lv_null X.1 X.2.1 dX2_lawAt_22 ?_
    have h9 := hE
    exact r_qret (v := none) X I (Or.inl ⟨_, rfl⟩) (e_q (congrArg (Option.map G.2.1) h9).symm rfl rfl) dX2_lawAt_23
  · skip
    have hE := ite_f hE c_1
    refine lv_iload_n X.1 X.2.1 dX2_lawAt_4 rfl (lv_at hl 1 rfl) ?_
    refine lv_aload_n X.1 X.2.1 dX2_lawAt_5 rfl (lv_at hl 0 rfl) ?_
    refine g2_0 X I (k := 13) (by decide) rfl lf_X2_11 dX2_lawAt_6 ?_
    refine r_alen21 X I (k := 14) (by decide) rfl dX2_lawAt_9 ?_
    refine lv_icmp_ge (tgt := 22) X.1 X.2.1 dX2_lawAt_10 (by decide) (fun c_2 => ?_) (fun c_2 => ?_)
    · skip
      have hE := ite_t hE c_2
      refine lv_null X.1 X.2.1 dX2_lawAt_22 ?_
      have h9 := hE
      exact r_qret (v := none) X I (Or.inl ⟨_, rfl⟩) (e_q (congrArg (Option.map G.2.1) h9).symm rfl rfl) dX2_lawAt_23
    · skip
      have hE := ite_f hE c_2
      refine lv_aload_n X.1 X.2.1 dX2_lawAt_13 rfl (lv_at hl 0 rfl) ?_
      refine g2_0 X I (k := 13) (by decide) rfl lf_X2_11 dX2_lawAt_14 ?_
      refine lv_iload_n X.1 X.2.1 dX2_lawAt_17 rfl (lv_at hl 1 rfl) ?_
      refine r_lawld X I (k := 14) (by decide) rfl (vp_g (n := 4) (by decide) c_1 c_2) dX2_lawAt_18 ?_
      refine lv_goto (tgt := 23) X.1 X.2.1 dX2_lawAt_19 (by decide) ?_
      have h9 := hE
      exact r_qret (v := some _) X I (Or.inl ⟨_, rfl⟩) (e_q (congrArg (Option.map G.2.1) h9).symm rfl rfl) dX2_lawAt_23
theorem law_fact {x1 : Int32} {k : Nat} (h : f2_lawAt x1 = some k) : isLaw k := by
  unfold f2_lawAt at h
  split at h
  · cases h
  · split at h
    · cases h
    · next h1 h2 =>
      obtain ⟨j, hj, rfl⟩ := nI_of h1
      have h3 : ¬ nI 4 ≤ nI j := h2
      rw [nI_leI (by decide) hj] at h3
      rw [nI_clamp hj] at h
      have h4 : 16 + 2 * j = k := Option.some.inj h
      subst h4
      exact law_all j (by omega)
theorem law_rng {x1 : Int32} {k : Nat} (h : f2_lawAt x1 = some k) : 16 ≤ k ∧ k + 1 < 24 := by
  unfold f2_lawAt at h
  split at h
  · cases h
  · split at h
    · cases h
    · next h1 h2 =>
      obtain ⟨j, hj, rfl⟩ := nI_of h1
      have h3 : ¬ nI 4 ≤ nI j := h2
      rw [nI_leI (by decide) hj] at h3
      rw [nI_clamp hj] at h
      have h4 : 16 + 2 * j = k := Option.some.inj h
      omega
noncomputable def f2_add (k1 : Nat) (σ : SI) : Int32 × SI := oq (f2_lawAt (σ 13 2)) (((-1 : Int32), σ)) (fun o_1k => let s0 := (f1_copy o_1k k1 σ); let s1 := sp s0 13 2 ((s0 13 2) + (1 : Int32)); ((((s0 13 2) + (1 : Int32)) - (1 : Int32)), s1))
set_option maxHeartbeats 4000000 in
set_option maxRecDepth 100000 in
theorem c2_add (l : Launch) (G : GT) {k1 : Nat} (hk1 : isLaw k1) (σ : SI) (τ : SL) : Mc l yX2_add cX2_add 3 (some .int) 3 G [.ref (G.2.1 13), .ref (G.2.1 k1)] σ τ (Qi G (Ei (f2_add k1 σ).1 (f2_add k1 σ).2 τ)) := by
  refine m_start (by decide +kernel) (Nat.le_of_ble_eq_true rfl) rfl (fun p e s m args below meth c ls X I hl => ?_)
  have hl : lv_has ls 3 [(0, .ref (G.2.1 13)), (1, .ref (G.2.1 k1))] := hl
  obtain ⟨E, hE⟩ : ∃ E, E = (f2_add k1 σ) := ⟨_, rfl⟩
  rw [← hE]
  refine lv_aload_n X.1 X.2.1 dX2_add_0 rfl (lv_at hl 0 rfl) ?_
  refine lv_aload_n X.1 X.2.1 dX2_add_1 rfl (lv_at hl 0 rfl) ?_
  refine g2_2 X I (k := 13) (by decide) rfl lf_X2_26 dX2_add_2 ?_
  refine r_eqs I (r_runV X I pk_X2_lawAt (c2_lawAt l G _ _ _) lm_X2_29 (by decide) (cl_2 rfl) rfl rfl rfl hl.1 rfl (Nat.le_of_ble_eq_true rfl) dX2_add_5 ⟨Nat.le_of_ble_eq_true rfl, Nat.le_of_ble_eq_true rfl⟩ ⟨Nat.le_refl 0, Nat.le_refl 0⟩) (fun o_1 H locs I => ?_) (fun o_1k ho_1 H locs I => ?_)
  · skip
    have hE := hE.trans (oq_none o_1)
    refine lv_astore_nN (lv' := [(2, .null), (0, .ref _), (1, .ref _)]) X.1 X.2.1 dX2_add_8 rfl hl (by decide) rfl (fun ls hl => ?_)
    refine lv_aload_nN X.1 X.2.1 dX2_add_9 rfl (lv_at hl 0 rfl) ?_
    refine lv_ifnonnullN X.1 X.2.1 dX2_add_10 ?_
    refine lv_iconst (v := (-1)) X.1 X.2.1 dX2_add_13 (by decide) ?_
    have h9 := hE
    exact r_iret X I (e_i (pr_fst h9) (pr_snd h9) rfl) dX2_add_14
  · skip
    have hko_1 := law_fact ho_1
    have hE := hE.trans (oq_some ho_1)
    refine lv_astore_n (lv' := [(2, .ref _), (0, .ref _), (1, .ref _)]) X.1 X.2.1 dX2_add_8 rfl hl (by decide) rfl (fun ls hl => ?_)
    refine lv_aload_n X.1 X.2.1 dX2_add_9 rfl (lv_at hl 0 rfl) ?_
    refine lv_ifnonnull (tgt := 15) X.1 X.2.1 dX2_add_10 (by decide) ?_
    refine lv_aload_n X.1 X.2.1 dX2_add_15 rfl (lv_at hl 0 rfl) ?_
    refine lv_aload_n X.1 X.2.1 dX2_add_16 rfl (lv_at hl 2 rfl) ?_
    refine r_ev I (r_runV X I pk_X1_copy (c1_copy l G (k := o_1k) hko_1 (k1 := k1) hk1 _ _) lm_X2_33 (Nat.lt_of_le_of_lt (Nat.add_le_add_left (show 0 ≤ 1 by decide) o_1k) hko_1.1) (cl_1 hko_1.2.1) rfl rfl rfl hl.1 rfl (Nat.le_of_ble_eq_true rfl) dX2_add_17 ⟨Nat.le_of_ble_eq_true rfl, Nat.le_of_ble_eq_true rfl⟩ ⟨Nat.le_refl 0, Nat.le_refl 0⟩) (fun H locs I => ?_)
    refine lv_aload_n X.1 X.2.1 dX2_add_20 rfl (lv_at hl 1 rfl) ?_
    refine lv_dup X.1 X.2.1 dX2_add_21 rfl ?_
    refine g2_2 X I (k := 13) (by decide) rfl lf_X2_26 dX2_add_22 ?_
    refine lv_iconst (v := 1) X.1 X.2.1 dX2_add_25 (by decide) ?_
    refine lv_iadd X.1 X.2.1 dX2_add_26 ?_
    refine p2_2 X I (k := 13) (by decide) rfl lf_X2_26 dX2_add_27 (fun H locs I => ?_)
    refine lv_aload_n X.1 X.2.1 dX2_add_30 rfl (lv_at hl 1 rfl) ?_
    refine g2_2 X I (k := 13) (by decide) rfl lf_X2_26 dX2_add_31 ?_
    refine lv_iconst (v := 1) X.1 X.2.1 dX2_add_34 (by decide) ?_
    refine lv_isub X.1 X.2.1 dX2_add_35 ?_
    have h9 := hE
    exact r_iret X I (e_i (pr_fst h9) (pr_snd h9) rfl) dX2_add_36
theorem w_f2_add {k1 : Nat} (σ : SI) (a : Nat) (h0 : a ≠ 13) (hL : a < 16 ∨ 24 ≤ a) : (f2_add k1 σ).2 a = σ a := by
  unfold f2_add
  (try dsimp only)
  refine oq_all (P := fun (z : Int32 × SI) => z.2 a = σ a) (fun _ => rfl) (fun k hk => ?_)
  obtain ⟨r1, r2⟩ := law_rng hk
  have e1 : a ≠ k := by omega
  have e2 : a ≠ k + 1 := by omega
  simp only [sp_n, su_n, ne_eq, not_false_eq_true, h0, e1, e2, w_f1_copy]
noncomputable def f2_choose (σ : SI) (x1 : Int32) : Bool × SI := if x1 < (-1 : Int32) then (false, σ) else (if x1 < (σ 13 2) then (let s0 := sp σ 13 3 x1; (true, s0)) else (false, σ))
theorem w_f2_choose (σ : SI) (x1 : Int32) (a : Nat) (h0 : a ≠ 13) : (f2_choose σ x1).2 a = σ a := by
  refine fp_to2 ?_
  unfold f2_choose
  exact (fr_ite2 (fr_mk21 rfl) (fr_ite2 (fr_mk21 (sp_n h0)) (fr_mk21 rfl)))
set_option maxHeartbeats 4000000 in
set_option maxRecDepth 100000 in
theorem c2_choose (l : Launch) (G : GT) (σ : SI) (τ : SL) (x1 : Int32) : Mc l yX2_choose cX2_choose 2 (some .boolean) 0 G [.ref (G.2.1 13), .int x1] σ τ (Qi G (Ei (b2i (f2_choose σ x1).1) (f2_choose σ x1).2 τ)) := by
  refine m_start (by decide +kernel) (Nat.le_of_ble_eq_true rfl) rfl (fun p e s m args below meth c ls X I hl => ?_)
  have hl : lv_has ls 2 [(0, .ref (G.2.1 13)), (1, .int x1)] := hl
  obtain ⟨E, hE⟩ : ∃ E, E = (f2_choose σ x1) := ⟨_, rfl⟩
  rw [← hE]
  refine lv_iload_n X.1 X.2.1 dX2_choose_0 rfl (lv_at hl 1 rfl) ?_
  refine lv_iconst (v := (-1)) X.1 X.2.1 dX2_choose_1 (by decide) ?_
  refine lv_icmp_lt (tgt := 13) X.1 X.2.1 dX2_choose_2 (by decide) (fun c_1 => ?_) (fun c_1 => ?_)
  · skip
    have hE := ite_t hE c_1
    refine lv_iconst (v := 0) X.1 X.2.1 dX2_choose_13 (by decide) ?_
    have h9 := hE
    exact r_zret X I rfl (e_i (congrArg b2i (pr_fst (a := false) h9)) (pr_snd h9) rfl) dX2_choose_14
  · skip
    have hE := ite_f hE c_1
    refine lv_iload_n X.1 X.2.1 dX2_choose_5 rfl (lv_at hl 1 rfl) ?_
    refine lv_aload_n X.1 X.2.1 dX2_choose_6 rfl (lv_at hl 0 rfl) ?_
    refine g2_2 X I (k := 13) (by decide) rfl lf_X2_26 dX2_choose_7 ?_
    refine lv_icmp_lt (tgt := 15) X.1 X.2.1 dX2_choose_10 (by decide) (fun c_2 => ?_) (fun c_2 => ?_)
    · skip
      have hE := ite_t hE c_2
      refine lv_aload_n X.1 X.2.1 dX2_choose_15 rfl (lv_at hl 0 rfl) ?_
      refine lv_iload_n X.1 X.2.1 dX2_choose_16 rfl (lv_at hl 1 rfl) ?_
      refine p2_3 X I (k := 13) (by decide) rfl lf_X2_22 dX2_choose_17 (fun H locs I => ?_)
      refine lv_iconst (v := 1) X.1 X.2.1 dX2_choose_20 (by decide) ?_
      have h9 := hE
      exact r_zret X I rfl (e_i (congrArg b2i (pr_fst (a := true) h9)) (pr_snd h9) rfl) dX2_choose_21
    · skip
      have hE := ite_f hE c_2
      refine lv_iconst (v := 0) X.1 X.2.1 dX2_choose_13 (by decide) ?_
      have h9 := hE
      exact r_zret X I rfl (e_i (congrArg b2i (pr_fst (a := false) h9)) (pr_snd h9) rfl) dX2_choose_14
noncomputable def f11_within (x0 : Int64) (x2 : Int32) (x3 : Int32) : Int32 := if (0 : Int32) ≤ (lg_cmp x0 (Int32.toInt64 x2)) then (if (lg_cmp x0 (Int32.toInt64 x3)) ≤ (0 : Int32) then (Int64.toInt32 x0) else x3) else x2
set_option maxHeartbeats 4000000 in
set_option maxRecDepth 100000 in
theorem c11_within (l : Launch) (G : GT) (σ : SI) (τ : SL) (x0 : Int64) (x2 : Int32) (x3 : Int32) : Mc l yX11_within cX11_within 4 (some .int) 0 G [.long x0, .int x2, .int x3] σ τ (Qi G (Ei (f11_within x0 x2 x3) σ τ)) := by
  refine m_start (by decide +kernel) (Nat.le_of_ble_eq_true rfl) rfl (fun p e s m args below meth c ls X I hl => ?_)
  have hl : lv_has ls 4 [(0, .long x0), (2, .int x2), (3, .int x3)] := hl
  obtain ⟨E, hE⟩ : ∃ E, E = (f11_within x0 x2 x3) := ⟨_, rfl⟩
  rw [← hE]
  refine lv_lload_n X.1 X.2.1 dX11_within_0 rfl (lv_at hl 0 rfl) ?_
  refine lv_iload_n X.1 X.2.1 dX11_within_1 rfl (lv_at hl 1 rfl) ?_
  refine lv_i2l X.1 X.2.1 dX11_within_2 rfl ?_
  refine W.lcmp X.1 X.2.1 dX11_within_3 ?_
  refine lv_if_ge (tgt := 11) X.1 X.2.1 dX11_within_4 (by decide) (fun c_1 => ?_) (fun c_1 => ?_)
  · skip
    have hE := ite_t hE c_1
    refine lv_lload_n X.1 X.2.1 dX11_within_11 rfl (lv_at hl 0 rfl) ?_
    refine lv_iload_n X.1 X.2.1 dX11_within_12 rfl (lv_at hl 2 rfl) ?_
    refine lv_i2l X.1 X.2.1 dX11_within_13 rfl ?_
    refine W.lcmp X.1 X.2.1 dX11_within_14 ?_
    refine lv_if_le (tgt := 22) X.1 X.2.1 dX11_within_15 (by decide) (fun c_2 => ?_) (fun c_2 => ?_)
    · skip
      have hE := ite_t hE c_2
      refine lv_lload_n X.1 X.2.1 dX11_within_22 rfl (lv_at hl 0 rfl) ?_
      refine lv_l2i X.1 X.2.1 dX11_within_23 rfl ?_
      have h9 := hE
      exact r_iret X I (e_i h9.symm rfl rfl) dX11_within_24
    · skip
      have hE := ite_f hE c_2
      refine lv_iload_n X.1 X.2.1 dX11_within_18 rfl (lv_at hl 2 rfl) ?_
      refine lv_goto (tgt := 24) X.1 X.2.1 dX11_within_19 (by decide) ?_
      have h9 := hE
      exact r_iret X I (e_i h9.symm rfl rfl) dX11_within_24
  · skip
    have hE := ite_f hE c_1
    refine lv_iload_n X.1 X.2.1 dX11_within_7 rfl (lv_at hl 1 rfl) ?_
    refine lv_goto (tgt := 24) X.1 X.2.1 dX11_within_8 (by decide) ?_
    have h9 := hE
    exact r_iret X I (e_i h9.symm rfl rfl) dX11_within_24
noncomputable def f2_pop (σ : SI) : Int32 × SI := if (σ 13 4) ≤ (0 : Int32) then ((0 : Int32), σ) else (if (σ 13 4) ≤ (32 : Int32) then (let s0 := sp σ 13 4 ((σ 13 4) - (1 : Int32)); ((σ 15 (Int32.toNatClampNeg ((σ 13 4) - (1 : Int32)))), s0)) else ((0 : Int32), σ))
theorem w_f2_pop (σ : SI) (a : Nat) (h0 : a ≠ 13) : (f2_pop σ).2 a = σ a := by
  refine fp_to2 ?_
  unfold f2_pop
  exact (fr_ite2 (fr_mk21 rfl) (fr_ite2 (fr_mk21 (sp_n h0)) (fr_mk21 rfl)))
set_option maxHeartbeats 4000000 in
set_option maxRecDepth 100000 in
theorem c2_pop (l : Launch) (G : GT) (σ : SI) (τ : SL) : Mc l yX2_pop cX2_pop 1 (some .int) 0 G [.ref (G.2.1 13)] σ τ (Qi G (Ei (f2_pop σ).1 (f2_pop σ).2 τ)) := by
  refine m_start (by decide +kernel) (Nat.le_of_ble_eq_true rfl) rfl (fun p e s m args below meth c ls X I hl => ?_)
  have hl : lv_has ls 1 [(0, .ref (G.2.1 13))] := hl
  obtain ⟨E, hE⟩ : ∃ E, E = (f2_pop σ) := ⟨_, rfl⟩
  rw [← hE]
  refine lv_aload_n X.1 X.2.1 dX2_pop_0 rfl (lv_at hl 0 rfl) ?_
  refine g2_4 X I (k := 13) (by decide) rfl lf_X2_63 dX2_pop_1 ?_
  refine lv_if_le (tgt := 19) X.1 X.2.1 dX2_pop_4 (by decide) (fun c_1 => ?_) (fun c_1 => ?_)
  · skip
    have hE := ite_t hE c_1
    refine lv_iconst (v := 0) X.1 X.2.1 dX2_pop_19 (by decide) ?_
    have h9 := hE
    exact r_iret X I (e_i (pr_fst h9) (pr_snd h9) rfl) dX2_pop_20
  · skip
    have hE := ite_f hE c_1
    refine lv_aload_n X.1 X.2.1 dX2_pop_7 rfl (lv_at hl 0 rfl) ?_
    refine g2_4 X I (k := 13) (by decide) rfl lf_X2_63 dX2_pop_8 ?_
    refine lv_aload_n X.1 X.2.1 dX2_pop_11 rfl (lv_at hl 0 rfl) ?_
    refine g2_1 X I (k := 13) (by decide) rfl lf_X2_18 dX2_pop_12 ?_
    refine r_alen X I (k := 15) (n := 32) (by decide) rfl (v := 32) rfl dX2_pop_15 ?_
    refine lv_icmp_le (tgt := 21) X.1 X.2.1 dX2_pop_16 (by decide) (fun c_2 => ?_) (fun c_2 => ?_)
    · skip
      have hE := ite_t hE c_2
      refine lv_aload_n X.1 X.2.1 dX2_pop_21 rfl (lv_at hl 0 rfl) ?_
      refine lv_dup X.1 X.2.1 dX2_pop_22 rfl ?_
      refine g2_4 X I (k := 13) (by decide) rfl lf_X2_63 dX2_pop_23 ?_
      refine lv_iconst (v := 1) X.1 X.2.1 dX2_pop_26 (by decide) ?_
      refine lv_isub X.1 X.2.1 dX2_pop_27 ?_
      refine p2_4 X I (k := 13) (by decide) rfl lf_X2_63 dX2_pop_28 (fun H locs I => ?_)
      refine lv_aload_n X.1 X.2.1 dX2_pop_31 rfl (lv_at hl 0 rfl) ?_
      refine g2_1 X I (k := 13) (by decide) rfl lf_X2_18 dX2_pop_32 ?_
      refine lv_aload_n X.1 X.2.1 dX2_pop_35 rfl (lv_at hl 0 rfl) ?_
      refine g2_4 X I (k := 13) (by decide) rfl lf_X2_63 dX2_pop_36 ?_
      refine r_ald X I (k := 15) (n := 32) (by decide) rfl (vp_pop c_1 c_2) dX2_pop_39 ?_
      have h9 := hE
      exact r_iret X I (e_i (pr_fst h9) (pr_snd h9) rfl) dX2_pop_40
    · skip
      have hE := ite_f hE c_2
      refine lv_iconst (v := 0) X.1 X.2.1 dX2_pop_19 (by decide) ?_
      have h9 := hE
      exact r_iret X I (e_i (pr_fst h9) (pr_snd h9) rfl) dX2_pop_20
noncomputable def f2_push (σ : SI) (x1 : Int32) : SI := if (σ 13 4) < (0 : Int32) then σ else (if (32 : Int32) ≤ (σ 13 4) then σ else (let s0 := sp σ 15 (Int32.toNatClampNeg (σ 13 4)) x1; let s1 := sp s0 13 4 ((σ 13 4) + (1 : Int32)); s1))
theorem w_f2_push (σ : SI) (x1 : Int32) (a : Nat) (h0 : a ≠ 13) (h1 : a ≠ 15) : (f2_push σ x1) a = σ a := by
  unfold f2_push
  exact (fr_ite rfl (fr_ite rfl ((sp_n h0).trans (sp_n h1))))
set_option maxHeartbeats 4000000 in
set_option maxRecDepth 100000 in
theorem c2_push (l : Launch) (G : GT) (σ : SI) (τ : SL) (x1 : Int32) : Mc l yX2_push cX2_push 2 none 0 G [.ref (G.2.1 13), .int x1] σ τ (Qv G (Ev (f2_push σ x1) τ)) := by
  refine m_start (by decide +kernel) (Nat.le_of_ble_eq_true rfl) rfl (fun p e s m args below meth c ls X I hl => ?_)
  have hl : lv_has ls 2 [(0, .ref (G.2.1 13)), (1, .int x1)] := hl
  obtain ⟨E, hE⟩ : ∃ E, E = (f2_push σ x1) := ⟨_, rfl⟩
  rw [← hE]
  refine lv_aload_n X.1 X.2.1 dX2_push_0 rfl (lv_at hl 0 rfl) ?_
  refine g2_4 X I (k := 13) (by decide) rfl lf_X2_63 dX2_push_1 ?_
  refine lv_if_lt (tgt := 39) X.1 X.2.1 dX2_push_4 (by decide) (fun c_1 => ?_) (fun c_1 => ?_)
  · skip
    have hE := ite_t hE c_1
    have h9 := hE
    exact r_vret X I (e_v h9.symm rfl) dX2_push_39
  · skip
    have hE := ite_f hE c_1
    refine lv_aload_n X.1 X.2.1 dX2_push_7 rfl (lv_at hl 0 rfl) ?_
    refine g2_4 X I (k := 13) (by decide) rfl lf_X2_63 dX2_push_8 ?_
    refine lv_aload_n X.1 X.2.1 dX2_push_11 rfl (lv_at hl 0 rfl) ?_
    refine g2_1 X I (k := 13) (by decide) rfl lf_X2_18 dX2_push_12 ?_
    refine r_alen X I (k := 15) (n := 32) (by decide) rfl (v := 32) rfl dX2_push_15 ?_
    refine lv_icmp_ge (tgt := 39) X.1 X.2.1 dX2_push_16 (by decide) (fun c_2 => ?_) (fun c_2 => ?_)
    · skip
      have hE := ite_t hE c_2
      have h9 := hE
      exact r_vret X I (e_v h9.symm rfl) dX2_push_39
    · skip
      have hE := ite_f hE c_2
      refine lv_aload_n X.1 X.2.1 dX2_push_19 rfl (lv_at hl 0 rfl) ?_
      refine g2_1 X I (k := 13) (by decide) rfl lf_X2_18 dX2_push_20 ?_
      refine lv_aload_n X.1 X.2.1 dX2_push_23 rfl (lv_at hl 0 rfl) ?_
      refine g2_4 X I (k := 13) (by decide) rfl lf_X2_63 dX2_push_24 ?_
      refine lv_iload_n X.1 X.2.1 dX2_push_27 rfl (lv_at hl 1 rfl) ?_
      refine r_ast X I (k := 15) (n := 32) (by decide) rfl (vp_g (n := 32) (by decide) c_1 c_2) dX2_push_28 (fun H locs I => ?_)
      refine lv_aload_n X.1 X.2.1 dX2_push_29 rfl (lv_at hl 0 rfl) ?_
      refine lv_dup X.1 X.2.1 dX2_push_30 rfl ?_
      refine g2_4 X I (k := 13) (by decide) rfl lf_X2_63 dX2_push_31 ?_
      refine lv_iconst (v := 1) X.1 X.2.1 dX2_push_34 (by decide) ?_
      refine lv_iadd X.1 X.2.1 dX2_push_35 ?_
      refine p2_4 X I (k := 13) (by decide) rfl lf_X2_63 dX2_push_36 (fun H locs I => ?_)
      have h9 := hE
      exact r_vret X I (e_v h9.symm rfl) dX2_push_39
