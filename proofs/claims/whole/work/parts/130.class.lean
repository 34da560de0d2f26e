noncomputable def f11_arePlaying (σ : SI) (x1 : Int32) (x2 : Int32) : Bool := if (f8_isHouse 10 σ x1) = true then (if (f8_isHouse 10 σ x2) = true then (if x1 = x2 then false else true) else false) else false
set_option maxHeartbeats 4000000 in
set_option maxRecDepth 100000 in
theorem c11_arePlaying (l : Launch) (G : GT) (σ : SI) (τ : SL) (x1 : Int32) (x2 : Int32) : Mc l yX11_arePlaying cX11_arePlaying 3 (some .boolean) 3 G [.ref (G.2.1 0), .int x1, .int x2] σ τ (Qi G (Ei (b2i (f11_arePlaying σ x1 x2)) σ τ)) := by
  refine m_start (by decide +kernel) (Nat.le_of_ble_eq_true rfl) rfl (fun p e s m args below meth c ls X I hl => ?_)
  have hl : lv_has ls 3 [(0, .ref (G.2.1 0)), (1, .int x1), (2, .int x2)] := hl
  obtain ⟨E, hE⟩ : ∃ E, E = (f11_arePlaying σ x1 x2) := ⟨_, rfl⟩
  rw [← hE]
  refine lv_aload_n X.1 X.2.1 dX11_arePlaying_0 rfl (lv_at hl 0 rfl) ?_
  refine g11_3 X I (k := 0) (by decide) rfl lf_X11_35 dX11_arePlaying_1 ?_
  refine lv_iload_n X.1 X.2.1 dX11_arePlaying_4 rfl (lv_at hl 1 rfl) ?_
  refine r_ei I (r_runV X I pk_X8_isHouse (c8_isHouse l G (k := 10) ⟨by decide, rfl, rfl, rfl⟩ _ _ _) lm_X11_169 (by decide) (cl_8 rfl) rfl rfl rfl hl.1 rfl (Nat.le_of_ble_eq_true rfl) dX11_arePlaying_5 ⟨Nat.le_of_ble_eq_true rfl, Nat.le_of_ble_eq_true rfl⟩ ⟨Nat.le_refl 0, Nat.le_refl 0⟩) (fun H locs I => ?_)
  refine lv_if_eq (tgt := 31) X.1 X.2.1 dX11_arePlaying_8 (by decide) (fun c_1 => ?_) (fun c_1 => ?_)
  · skip
    have hE := ite_f hE (b2i_n c_1)
    refine lv_iconst (v := 0) X.1 X.2.1 dX11_arePlaying_31 (by decide) ?_
    have h9 := hE
    exact r_zret X I rfl (e_i (congrArg b2i h9).symm rfl rfl) dX11_arePlaying_32
  · skip
    have hE := ite_t hE (b2i_y c_1)
    refine lv_aload_n X.1 X.2.1 dX11_arePlaying_11 rfl (lv_at hl 0 rfl) ?_
    refine g11_3 X I (k := 0) (by decide) rfl lf_X11_35 dX11_arePlaying_12 ?_
    refine lv_iload_n X.1 X.2.1 dX11_arePlaying_15 rfl (lv_at hl 2 rfl) ?_
    refine r_ei I (r_runV X I pk_X8_isHouse (c8_isHouse l G (k := 10) ⟨by decide, rfl, rfl, rfl⟩ _ _ _) lm_X11_169 (by decide) (cl_8 rfl) rfl rfl rfl hl.1 rfl (Nat.le_of_ble_eq_true rfl) dX11_arePlaying_16 ⟨Nat.le_of_ble_eq_true rfl, Nat.le_of_ble_eq_true rfl⟩ ⟨Nat.le_refl 0, Nat.le_refl 0⟩) (fun H locs I => ?_)
    refine lv_if_eq (tgt := 31) X.1 X.2.1 dX11_arePlaying_19 (by decide) (fun c_2 => ?_) (fun c_2 => ?_)
    · skip
      have hE := ite_f hE (b2i_n c_2)
      refine lv_iconst (v := 0) X.1 X.2.1 dX11_arePlaying_31 (by decide) ?_
      have h9 := hE
      exact r_zret X I rfl (e_i (congrArg b2i h9).symm rfl rfl) dX11_arePlaying_32
    · skip
      have hE := ite_t hE (b2i_y c_2)
      refine lv_iload_n X.1 X.2.1 dX11_arePlaying_22 rfl (lv_at hl 1 rfl) ?_
      refine lv_iload_n X.1 X.2.1 dX11_arePlaying_23 rfl (lv_at hl 2 rfl) ?_
      refine lv_icmp_eq (tgt := 31) X.1 X.2.1 dX11_arePlaying_24 (by decide) (fun c_3 => ?_) (fun c_3 => ?_)
      · skip
        have hE := ite_t hE c_3
        refine lv_iconst (v := 0) X.1 X.2.1 dX11_arePlaying_31 (by decide) ?_
        have h9 := hE
        exact r_zret X I rfl (e_i (congrArg b2i h9).symm rfl rfl) dX11_arePlaying_32
      · skip
        have hE := ite_f hE c_3
        refine lv_iconst (v := 1) X.1 X.2.1 dX11_arePlaying_27 (by decide) ?_
        refine lv_goto (tgt := 32) X.1 X.2.1 dX11_arePlaying_28 (by decide) ?_
        have h9 := hE
        exact r_zret X I rfl (e_i (congrArg b2i h9).symm rfl rfl) dX11_arePlaying_32
noncomputable def f11_gain (x0 : Int32) (x1 : Int32) (x2 : Int32) : Int32 := if x2 ≤ x1 then ((x0 - (0 : Int32)) - (x1 / (2 : Int32))) else ((x0 - (4 : Int32)) - (x1 / (2 : Int32)))
set_option maxHeartbeats 4000000 in
set_option maxRecDepth 100000 in
theorem c11_gain (l : Launch) (G : GT) (σ : SI) (τ : SL) (x0 : Int32) (x1 : Int32) (x2 : Int32) : Mc l yX11_gain cX11_gain 3 (some .int) 0 G [.int x0, .int x1, .int x2] σ τ (Qi G (Ei (f11_gain x0 x1 x2) σ τ)) := by
  refine m_start (by decide +kernel) (Nat.le_of_ble_eq_true rfl) rfl (fun p e s m args below meth c ls X I hl => ?_)
  have hl : lv_has ls 3 [(0, .int x0), (1, .int x1), (2, .int x2)] := hl
  obtain ⟨E, hE⟩ : ∃ E, E = (f11_gain x0 x1 x2) := ⟨_, rfl⟩
  rw [← hE]
  refine lv_iload_n X.1 X.2.1 dX11_gain_0 rfl (lv_at hl 0 rfl) ?_
  refine lv_iload_n X.1 X.2.1 dX11_gain_1 rfl (lv_at hl 2 rfl) ?_
  refine lv_iload_n X.1 X.2.1 dX11_gain_2 rfl (lv_at hl 1 rfl) ?_
  refine lv_icmp_le (tgt := 10) X.1 X.2.1 dX11_gain_3 (by decide) (fun c_1 => ?_) (fun c_1 => ?_)
  · skip
    have hE := ite_t hE c_1
    refine lv_iconst (v := 0) X.1 X.2.1 dX11_gain_10 (by decide) ?_
    refine lv_isub X.1 X.2.1 dX11_gain_11 ?_
    refine lv_iload_n X.1 X.2.1 dX11_gain_12 rfl (lv_at hl 1 rfl) ?_
    refine lv_iconst (v := 2) X.1 X.2.1 dX11_gain_13 (by decide) ?_
    refine lv_idiv X.1 X.2.1 dX11_gain_14 (by decide) ?_
    refine lv_isub X.1 X.2.1 dX11_gain_15 ?_
    have h9 := hE
    exact r_iret X I (e_i h9.symm rfl rfl) dX11_gain_16
  · skip
    have hE := ite_f hE c_1
    refine lv_iconst (v := 4) X.1 X.2.1 dX11_gain_6 (by decide) ?_
    refine lv_goto (tgt := 11) X.1 X.2.1 dX11_gain_7 (by decide) ?_
    refine lv_isub X.1 X.2.1 dX11_gain_11 ?_
    refine lv_iload_n X.1 X.2.1 dX11_gain_12 rfl (lv_at hl 1 rfl) ?_
    refine lv_iconst (v := 2) X.1 X.2.1 dX11_gain_13 (by decide) ?_
    refine lv_idiv X.1 X.2.1 dX11_gain_14 (by decide) ?_
    refine lv_isub X.1 X.2.1 dX11_gain_15 ?_
    have h9 := hE
    exact r_iret X I (e_i h9.symm rfl rfl) dX11_gain_16
noncomputable def f11_isClaim (x0 : Int32) : Bool := if x0 < (0 : Int32) then false else (if (10 : Int32) ≤ x0 then false else true)
set_option maxHeartbeats 4000000 in
set_option maxRecDepth 100000 in
theorem c11_isClaim (l : Launch) (G : GT) (σ : SI) (τ : SL) (x0 : Int32) : Mc l yX11_isClaim cX11_isClaim 1 (some .boolean) 0 G [.int x0] σ τ (Qi G (Ei (b2i (f11_isClaim x0)) σ τ)) := by
  refine m_start (by decide +kernel) (Nat.le_of_ble_eq_true rfl) rfl (fun p e s m args below meth c ls X I hl => ?_)
  have hl : lv_has ls 1 [(0, .int x0)] := hl
  obtain ⟨E, hE⟩ : ∃ E, E = (f11_isClaim x0) := ⟨_, rfl⟩
  rw [← hE]
  refine lv_iload_n X.1 X.2.1 dX11_isClaim_0 rfl (lv_at hl 0 rfl) ?_
  refine lv_if_lt (tgt := 14) X.1 X.2.1 dX11_isClaim_1 (by decide) (fun c_1 => ?_) (fun c_1 => ?_)
  · skip
    have hE := ite_t hE c_1
    refine lv_iconst (v := 0) X.1 X.2.1 dX11_isClaim_14 (by decide) ?_
    have h9 := hE
    exact r_zret X I rfl (e_i (congrArg b2i h9).symm rfl rfl) dX11_isClaim_15
  · skip
    have hE := ite_f hE c_1
    refine lv_iload_n X.1 X.2.1 dX11_isClaim_4 rfl (lv_at hl 0 rfl) ?_
    refine lv_bipush (v := 10) X.1 X.2.1 dX11_isClaim_5 (by decide) ?_
    refine lv_icmp_ge (tgt := 14) X.1 X.2.1 dX11_isClaim_7 (by decide) (fun c_2 => ?_) (fun c_2 => ?_)
    · skip
      have hE := ite_t hE c_2
      refine lv_iconst (v := 0) X.1 X.2.1 dX11_isClaim_14 (by decide) ?_
      have h9 := hE
      exact r_zret X I rfl (e_i (congrArg b2i h9).symm rfl rfl) dX11_isClaim_15
    · skip
      have hE := ite_f hE c_2
      refine lv_iconst (v := 1) X.1 X.2.1 dX11_isClaim_10 (by decide) ?_
      refine lv_goto (tgt := 15) X.1 X.2.1 dX11_isClaim_11 (by decide) ?_
      have h9 := hE
      exact r_zret X I rfl (e_i (congrArg b2i h9).symm rfl rfl) dX11_isClaim_15
noncomputable def f11_standsClaimed (σ : SI) (x1 : Int32) (x2 : Int32) : Int32 × SI := let r0 := (f11_standsNow σ x1 (if ((f0_grievanceOf 24 σ x1) + x2) < (30 : Int32) then ((f0_grievanceOf 24 σ x1) + x2) else (30 : Int32))); r0
theorem w_f11_standsClaimed (σ : SI) (x1 : Int32) (x2 : Int32) (a : Nat) (h0 : a ≠ 13) (h1 : a ≠ 15) : (f11_standsClaimed σ x1 x2).2 a = σ a := by
  refine fp_to2 ?_
  unfold f11_standsClaimed
  exact (w_f11_standsNow _ _ _ a h0 h1)
set_option maxHeartbeats 4000000 in
set_option maxRecDepth 100000 in
theorem c11_standsClaimed (l : Launch) (G : GT) (σ : SI) (τ : SL) (x1 : Int32) (x2 : Int32) : Mc l yX11_standsClaimed cX11_standsClaimed 3 (some .int) 5 G [.ref (G.2.1 0), .int x1, .int x2] σ τ (Qi G (Ei (f11_standsClaimed σ x1 x2).1 (f11_standsClaimed σ x1 x2).2 τ)) := by
  refine m_start (by decide +kernel) (Nat.le_of_ble_eq_true rfl) rfl (fun p e s m args below meth c ls X I hl => ?_)
  have hl : lv_has ls 3 [(0, .ref (G.2.1 0)), (1, .int x1), (2, .int x2)] := hl
  obtain ⟨E, hE⟩ : ∃ E, E = (f11_standsClaimed σ x1 x2) := ⟨_, rfl⟩
  rw [← hE]
  refine lv_aload_n X.1 X.2.1 dX11_standsClaimed_0 rfl (lv_at hl 0 rfl) ?_
  refine lv_iload_n X.1 X.2.1 dX11_standsClaimed_1 rfl (lv_at hl 1 rfl) ?_
  refine lv_bipush (v := 30) X.1 X.2.1 dX11_standsClaimed_2 (by decide) ?_
  refine lv_aload_n X.1 X.2.1 dX11_standsClaimed_4 rfl (lv_at hl 0 rfl) ?_
  refine g11_5 X I (k := 0) (by decide) rfl lf_X11_49 dX11_standsClaimed_5 ?_
  refine lv_iload_n X.1 X.2.1 dX11_standsClaimed_8 rfl (lv_at hl 1 rfl) ?_
  refine r_ei I (r_runV X I pk_X0_grievanceOf (c0_grievanceOf l G (k := 24) ⟨by decide, rfl, rfl⟩ _ _ _) lm_X11_182 (by decide) (cl_0 rfl) rfl rfl rfl hl.1 rfl (Nat.le_of_ble_eq_true rfl) dX11_standsClaimed_9 ⟨Nat.le_of_ble_eq_true rfl, Nat.le_of_ble_eq_true rfl⟩ ⟨Nat.le_refl 0, Nat.le_refl 0⟩) (fun H locs I => ?_)
  refine lv_iload_n X.1 X.2.1 dX11_standsClaimed_12 rfl (lv_at hl 2 rfl) ?_
  refine lv_iadd X.1 X.2.1 dX11_standsClaimed_13 ?_
  refine r_mmin X hl.1 lm_X11_283 ls_J9_min_7cf53 ln_J9 lc_J9_min_7cf53 (Nat.le_of_ble_eq_true rfl) (Nat.le_of_ble_eq_true rfl) (Nat.le_refl 0) (Nat.le_refl 0) dX11_standsClaimed_14 ?_
  refine r_ei I (r_runV X I pk_X11_standsNow (c11_standsNow l G _ _ _ _) lm_X11_207 (by decide) (cl_11 rfl) rfl rfl rfl hl.1 rfl (Nat.le_of_ble_eq_true rfl) dX11_standsClaimed_17 ⟨Nat.le_of_ble_eq_true rfl, Nat.le_of_ble_eq_true rfl⟩ ⟨Nat.le_refl 0, Nat.le_refl 0⟩) (fun H locs I => ?_)
  have h9 := hE
  exact r_iret X I (e_i (congrArg Prod.fst h9).symm (congrArg Prod.snd h9).symm rfl) dX11_standsClaimed_20
noncomputable def f11_game (σ : SI) (x1 : Int32) (x2 : Int32) (x3 : Int32) (x4 : Int32) (x5 : Int32) : Int32 × SI := if (f11_arePlaying σ x1 x2) = true then (if (f11_isClaim x3) = true then (if (f11_isClaim x4) = true then (if x5 < (0 : Int32) then ((-1000000 : Int32), σ) else (if x5 ≤ (1 : Int32) then (if x5 = (0 : Int32) then (let r1 := (f11_standsClaimed σ x1 x3); ((f11_gain r1.1 x3 x4), r1.2)) else (let r0 := (f11_standsClaimed σ x2 x4); ((f11_gain r0.1 x4 x3), r0.2))) else ((-1000000 : Int32), σ))) else ((-1000000 : Int32), σ)) else ((-1000000 : Int32), σ)) else ((-1000000 : Int32), σ)
theorem w_f11_game (σ : SI) (x1 : Int32) (x2 : Int32) (x3 : Int32) (x4 : Int32) (x5 : Int32) (a : Nat) (h0 : a ≠ 13) (h1 : a ≠ 15) : (f11_game σ x1 x2 x3 x4 x5).2 a = σ a := by
  refine fp_to2 ?_
  unfold f11_game
  exact (fr_ite2 (fr_ite2 (fr_ite2 (fr_ite2 (fr_mk21 rfl) (fr_ite2 (fr_ite2 (fr_mk21 (w_f11_standsClaimed _ _ _ a h0 h1)) (fr_mk21 (w_f11_standsClaimed _ _ _ a h0 h1))) (fr_mk21 rfl))) (fr_mk21 rfl)) (fr_mk21 rfl)) (fr_mk21 rfl))
set_option maxHeartbeats 4000000 in
set_option maxRecDepth 100000 in
theorem c11_game (l : Launch) (G : GT) (σ : SI) (τ : SL) (x1 : Int32) (x2 : Int32) (x3 : Int32) (x4 : Int32) (x5 : Int32) : Mc l yX11_game cX11_game 6 (some .int) 6 G [.ref (G.2.1 0), .int x1, .int x2, .int x3, .int x4, .int x5] σ τ (Qi G (Ei (f11_game σ x1 x2 x3 x4 x5).1 (f11_game σ x1 x2 x3 x4 x5).2 τ)) := by
  refine m_start (by decide +kernel) (Nat.le_of_ble_eq_true rfl) rfl (fun p e s m args below meth c ls X I hl => ?_)
  have hl : lv_has ls 6 [(0, .ref (G.2.1 0)), (1, .int x1), (2, .int x2), (3, .int x3), (4, .int x4), (5, .int x5)] := hl
  obtain ⟨E, hE⟩ : ∃ E, E = (f11_game σ x1 x2 x3 x4 x5) := ⟨_, rfl⟩
  rw [← hE]
  refine lv_aload_n X.1 X.2.1 dX11_game_0 rfl (lv_at hl 0 rfl) ?_
  refine lv_iload_n X.1 X.2.1 dX11_game_1 rfl (lv_at hl 1 rfl) ?_
  refine lv_iload_n X.1 X.2.1 dX11_game_2 rfl (lv_at hl 2 rfl) ?_
  refine r_ei I (r_runV X I pk_X11_arePlaying (c11_arePlaying l G _ _ _ _) lm_X11_382 (by decide) (cl_11 rfl) rfl rfl rfl hl.1 rfl (Nat.le_of_ble_eq_true rfl) dX11_game_3 ⟨Nat.le_of_ble_eq_true rfl, Nat.le_of_ble_eq_true rfl⟩ ⟨Nat.le_refl 0, Nat.le_refl 0⟩) (fun H locs I => ?_)
  refine lv_if_eq (tgt := 35) X.1 X.2.1 dX11_game_6 (by decide) (fun c_1 => ?_) (fun c_1 => ?_)
  · skip
    have hE := ite_f hE (b2i_n c_1)
    refine lv_ldcw X.1 X.2.1 (v := (-1000000)) X.2.2.2.2.1 (X.2.2.2.1 _ lq_X11_388) dX11_game_35 ?_
    have h9 := hE
    exact r_iret X I (e_i (pr_fst h9) (pr_snd h9) rfl) dX11_game_38
  · skip
    have hE := ite_t hE (b2i_y c_1)
    refine lv_iload_n X.1 X.2.1 dX11_game_9 rfl (lv_at hl 3 rfl) ?_
    refine r_ei I (r_runS X I pk_X11_isClaim (c11_isClaim l G _ _ _) lm_X11_385 rfl hl.1 rfl (Nat.le_of_ble_eq_true rfl) dX11_game_10 ⟨Nat.le_of_ble_eq_true rfl, Nat.le_of_ble_eq_true rfl⟩ ⟨Nat.le_refl 0, Nat.le_refl 0⟩) (fun H locs I => ?_)
    refine lv_if_eq (tgt := 35) X.1 X.2.1 dX11_game_13 (by decide) (fun c_2 => ?_) (fun c_2 => ?_)
    · skip
      have hE := ite_f hE (b2i_n c_2)
      refine lv_ldcw X.1 X.2.1 (v := (-1000000)) X.2.2.2.2.1 (X.2.2.2.1 _ lq_X11_388) dX11_game_35 ?_
      have h9 := hE
      exact r_iret X I (e_i (pr_fst h9) (pr_snd h9) rfl) dX11_game_38
    · skip
      have hE := ite_t hE (b2i_y c_2)
      refine lv_iload X.1 X.2.1 dX11_game_16 (lv_at hl 4 rfl) ?_
      refine r_ei I (r_runS X I pk_X11_isClaim (c11_isClaim l G _ _ _) lm_X11_385 rfl hl.1 rfl (Nat.le_of_ble_eq_true rfl) dX11_game_18 ⟨Nat.le_of_ble_eq_true rfl, Nat.le_of_ble_eq_true rfl⟩ ⟨Nat.le_refl 0, Nat.le_refl 0⟩) (fun H locs I => ?_)
      refine lv_if_eq (tgt := 35) X.1 X.2.1 dX11_game_21 (by decide) (fun c_3 => ?_) (fun c_3 => ?_)
      · skip
        have hE := ite_f hE (b2i_n c_3)
        refine lv_ldcw X.1 X.2.1 (v := (-1000000)) X.2.2.2.2.1 (X.2.2.2.1 _ lq_X11_388) dX11_game_35 ?_
        have h9 := hE
        exact r_iret X I (e_i (pr_fst h9) (pr_snd h9) rfl) dX11_game_38
      · skip
        have hE := ite_t hE (b2i_y c_3)
        refine lv_iload X.1 X.2.1 dX11_game_24 (lv_at hl 5 rfl) ?_
        refine lv_if_lt (tgt := 35) X.1 X.2.1 dX11_game_26 (by decide) (fun c_4 => ?_) (fun c_4 => ?_)
        · skip
          have hE := ite_t hE c_4
          refine lv_ldcw X.1 X.2.1 (v := (-1000000)) X.2.2.2.2.1 (X.2.2.2.1 _ lq_X11_388) dX11_game_35 ?_
          have h9 := hE
          exact r_iret X I (e_i (pr_fst h9) (pr_snd h9) rfl) dX11_game_38
        · skip
          have hE := ite_f hE c_4
          refine lv_iload X.1 X.2.1 dX11_game_29 (lv_at hl 5 rfl) ?_
          refine lv_iconst (v := 1) X.1 X.2.1 dX11_game_31 (by decide) ?_
          refine lv_icmp_le (tgt := 39) X.1 X.2.1 dX11_game_32 (by decide) (fun c_5 => ?_) (fun c_5 => ?_)
          · skip
            have hE := ite_t hE c_5
            refine lv_iload X.1 X.2.1 dX11_game_39 (lv_at hl 5 rfl) ?_
            refine lv_if_ne (tgt := 59) X.1 X.2.1 dX11_game_41 (by decide) (fun c_6 => ?_) (fun c_6 => ?_)
            · skip
              have hE := ite_f hE c_6
              refine lv_aload_n X.1 X.2.1 dX11_game_59 rfl (lv_at hl 0 rfl) ?_
              refine lv_iload_n X.1 X.2.1 dX11_game_60 rfl (lv_at hl 2 rfl) ?_
              refine lv_iload X.1 X.2.1 dX11_game_61 (lv_at hl 4 rfl) ?_
              refine r_ei I (r_runV X I pk_X11_standsClaimed (c11_standsClaimed l G _ _ _ _) lm_X11_389 (by decide) (cl_11 rfl) rfl rfl rfl hl.1 rfl (Nat.le_of_ble_eq_true rfl) dX11_game_63 ⟨Nat.le_of_ble_eq_true rfl, Nat.le_of_ble_eq_true rfl⟩ ⟨Nat.le_refl 0, Nat.le_refl 0⟩) (fun H locs I => ?_)
              refine lv_iload X.1 X.2.1 dX11_game_66 (lv_at hl 4 rfl) ?_
              refine lv_iload_n X.1 X.2.1 dX11_game_68 rfl (lv_at hl 3 rfl) ?_
              refine r_ei I (r_runS X I pk_X11_gain (c11_gain l G _ _ _ _ _) lm_X11_392 rfl hl.1 rfl (Nat.le_of_ble_eq_true rfl) dX11_game_69 ⟨Nat.le_of_ble_eq_true rfl, Nat.le_of_ble_eq_true rfl⟩ ⟨Nat.le_refl 0, Nat.le_refl 0⟩) (fun H locs I => ?_)
              have h9 := hE
              exact r_iret X I (e_i (pr_fst h9) (pr_snd h9) rfl) dX11_game_72
            · skip
              have hE := ite_t hE c_6
              refine lv_aload_n X.1 X.2.1 dX11_game_44 rfl (lv_at hl 0 rfl) ?_
              refine lv_iload_n X.1 X.2.1 dX11_game_45 rfl (lv_at hl 1 rfl) ?_
              refine lv_iload_n X.1 X.2.1 dX11_game_46 rfl (lv_at hl 3 rfl) ?_
              refine r_ei I (r_runV X I pk_X11_standsClaimed (c11_standsClaimed l G _ _ _ _) lm_X11_389 (by decide) (cl_11 rfl) rfl rfl rfl hl.1 rfl (Nat.le_of_ble_eq_true rfl) dX11_game_47 ⟨Nat.le_of_ble_eq_true rfl, Nat.le_of_ble_eq_true rfl⟩ ⟨Nat.le_refl 0, Nat.le_refl 0⟩) (fun H locs I => ?_)
              refine lv_iload_n X.1 X.2.1 dX11_game_50 rfl (lv_at hl 3 rfl) ?_
              refine lv_iload X.1 X.2.1 dX11_game_51 (lv_at hl 4 rfl) ?_
              refine r_ei I (r_runS X I pk_X11_gain (c11_gain l G _ _ _ _ _) lm_X11_392 rfl hl.1 rfl (Nat.le_of_ble_eq_true rfl) dX11_game_53 ⟨Nat.le_of_ble_eq_true rfl, Nat.le_of_ble_eq_true rfl⟩ ⟨Nat.le_refl 0, Nat.le_refl 0⟩) (fun H locs I => ?_)
              refine lv_goto (tgt := 72) X.1 X.2.1 dX11_game_56 (by decide) ?_
              have h9 := hE
              exact r_iret X I (e_i (pr_fst h9) (pr_snd h9) rfl) dX11_game_72
          · skip
            have hE := ite_f hE c_5
            refine lv_ldcw X.1 X.2.1 (v := (-1000000)) X.2.2.2.2.1 (X.2.2.2.1 _ lq_X11_388) dX11_game_35 ?_
            have h9 := hE
            exact r_iret X I (e_i (pr_fst h9) (pr_snd h9) rfl) dX11_game_38
noncomputable def f11_isBest_c14 (k : Nat) (n : Nat) (σ : SI) (x1 : Int32) (x2 : Int32) (x3 : Int32) : Nat → Int32 → Bool
  | 0, _ => false
  | fu + 1, v4 => if (10 : Int32) ≤ v4 then true else (if (f11_gain (f11_cell k n σ v4) v4 x2) ≤ x3 then (f11_isBest_c14 k n σ x1 x2 x3 fu (v4 + 1)) else false)
noncomputable def f11_isBest (k : Nat) (n : Nat) (σ : SI) (x1 : Int32) (x2 : Int32) : Bool := (f11_isBest_c14 k n σ x1 x2 (f11_gain (f11_cell k n σ x1) x1 x2) (fu1 ((Int32.toInt (10 : Int32) - Int32.toInt (0 : Int32)).toNat)) (0 : Int32))
set_option maxHeartbeats 4000000 in
set_option maxRecDepth 100000 in
theorem c11_isBest_c14 {l : Launch} {p : Program} {e : Env} {s : State} {m : MethodId} {args : Array Value} {below : List Frame} {meth : Method} {c : Code} {G : GT} (X : CX p s m args meth c cX11_isBest RX11 5 (some .boolean) G) {k n : Nat} (hk : k < NW) (hd : kd k = 100 + n) (hn : n < 2 ^ 31) {E : Bool} (σ : SI) (τ : SL) (x1 : Int32) (x2 : Int32) (x3 : Int32) : ∀ (fu : Nat) (v4 : Int32) (H : Heap) (locs : List Loc) (ls : Array Slot), IX G s H locs σ τ → lv_has ls 5 [(0, .ref (G.2.1 k)), (1, .int x1), (2, .int x2), (3, .int x3), (4, .int v4)] → (Int32.toInt (10 : Int32) - Int32.toInt v4).toNat < fu → E = (f11_isBest_c14 k n σ x1 x2 x3 fu v4) → W p l e (rmN 1) s m args below meth c H locs 0 0 (MQ below ((Qi G (Ei (b2i E) σ τ)) s.heap.size) args s 0 0 (AW G s.heap.size)) (F0 m 14 ls []) := by
  intro fu
  induction fu with
  | zero =>
    intro v4 H locs ls I hl  hm hE
    exact absurd hm (Nat.not_lt_zero _)
  | succ fu ih =>
    intro v4 H locs ls I hl  hm hE
    refine lv_iload X.1 X.2.1 dX11_isBest_14 (lv_at hl 4 rfl) ?_
    refine lv_bipush (v := 10) X.1 X.2.1 dX11_isBest_16 (by decide) ?_
    refine lv_icmp_ge (tgt := 45) X.1 X.2.1 dX11_isBest_18 (by decide) (fun c_1 => ?_) (fun c_1 => ?_)
    · skip
      have hE := ite_t hE c_1
      refine lv_iconst (v := 1) X.1 X.2.1 dX11_isBest_45 (by decide) ?_
      have h9 := hE
      exact r_zret X I rfl (e_i (congrArg b2i h9).symm rfl rfl) dX11_isBest_46
    · skip
      have hE := ite_f hE c_1
      refine lv_aload_n X.1 X.2.1 dX11_isBest_21 rfl (lv_at hl 0 rfl) ?_
      refine lv_iload X.1 X.2.1 dX11_isBest_22 (lv_at hl 4 rfl) ?_
      refine r_ei I (r_runS X I pk_X11_cell (c11_cell l G (k := k) (n := n) hk hd hn _ _ _) lm_X11_403 rfl hl.1 rfl (Nat.le_of_ble_eq_true rfl) dX11_isBest_24 ⟨Nat.le_of_ble_eq_true rfl, Nat.le_of_ble_eq_true rfl⟩ ⟨Nat.le_refl 0, Nat.le_refl 0⟩) (fun H locs I => ?_)
      refine lv_iload X.1 X.2.1 dX11_isBest_27 (lv_at hl 4 rfl) ?_
      refine lv_iload_n X.1 X.2.1 dX11_isBest_29 rfl (lv_at hl 2 rfl) ?_
      refine r_ei I (r_runS X I pk_X11_gain (c11_gain l G _ _ _ _ _) lm_X11_392 rfl hl.1 rfl (Nat.le_of_ble_eq_true rfl) dX11_isBest_30 ⟨Nat.le_of_ble_eq_true rfl, Nat.le_of_ble_eq_true rfl⟩ ⟨Nat.le_refl 0, Nat.le_refl 0⟩) (fun H locs I => ?_)
      refine lv_iload_n X.1 X.2.1 dX11_isBest_33 rfl (lv_at hl 3 rfl) ?_
      refine lv_icmp_le (tgt := 39) X.1 X.2.1 dX11_isBest_34 (by decide) (fun c_2 => ?_) (fun c_2 => ?_)
      · skip
        have hE := ite_t hE c_2
        refine lv_iinc (v := _ + 1) (lv' := [(4, .int _), (0, .ref _), (1, .int _), (2, .int _), (3, .int _)]) X.1 X.2.1 dX11_isBest_39 hl (k := 4) rfl rfl (by decide) rfl (fun ls hl => ?_)
        refine lv_goto (tgt := 14) X.1 X.2.1 dX11_isBest_42 (by decide) ?_
        exact ih _ _ _ _ I (lv_sub hl [1, 2, 3, 4, 0] rfl) (Nat.lt_of_lt_of_le (up_dec c_1) (Nat.le_of_lt_succ hm)) (hE.trans (rfl))
      · skip
        have hE := ite_f hE c_2
        refine lv_iconst (v := 0) X.1 X.2.1 dX11_isBest_37 (by decide) ?_
        have h9 := hE
        exact r_zret X I rfl (e_i (congrArg b2i h9).symm rfl rfl) dX11_isBest_38
set_option maxHeartbeats 4000000 in
set_option maxRecDepth 100000 in
theorem c11_isBest (l : Launch) (G : GT) {k n : Nat} (hk : k < NW) (hd : kd k = 100 + n) (hn : n < 2 ^ 31) (σ : SI) (τ : SL) (x1 : Int32) (x2 : Int32) : Mc l yX11_isBest cX11_isBest 5 (some .boolean) 1 G [.ref (G.2.1 k), .int x1, .int x2] σ τ (Qi G (Ei (b2i (f11_isBest k n σ x1 x2)) σ τ)) := by
  refine m_start (by decide +kernel) (Nat.le_of_ble_eq_true rfl) rfl (fun p e s m args below meth c ls X I hl => ?_)
  have hl : lv_has ls 5 [(0, .ref (G.2.1 k)), (1, .int x1), (2, .int x2)] := hl
  obtain ⟨E, hE⟩ : ∃ E, E = (f11_isBest k n σ x1 x2) := ⟨_, rfl⟩
  rw [← hE]
  refine lv_aload_n X.1 X.2.1 dX11_isBest_0 rfl (lv_at hl 0 rfl) ?_
  refine lv_iload_n X.1 X.2.1 dX11_isBest_1 rfl (lv_at hl 1 rfl) ?_
  refine r_ei I (r_runS X I pk_X11_cell (c11_cell l G (k := k) (n := n) hk hd hn _ _ _) lm_X11_403 rfl hl.1 rfl (Nat.le_of_ble_eq_true rfl) dX11_isBest_2 ⟨Nat.le_of_ble_eq_true rfl, Nat.le_of_ble_eq_true rfl⟩ ⟨Nat.le_refl 0, Nat.le_refl 0⟩) (fun H locs I => ?_)
  refine lv_iload_n X.1 X.2.1 dX11_isBest_5 rfl (lv_at hl 1 rfl) ?_
  refine lv_iload_n X.1 X.2.1 dX11_isBest_6 rfl (lv_at hl 2 rfl) ?_
  refine r_ei I (r_runS X I pk_X11_gain (c11_gain l G _ _ _ _ _) lm_X11_392 rfl hl.1 rfl (Nat.le_of_ble_eq_true rfl) dX11_isBest_7 ⟨Nat.le_of_ble_eq_true rfl, Nat.le_of_ble_eq_true rfl⟩ ⟨Nat.le_refl 0, Nat.le_refl 0⟩) (fun H locs I => ?_)
  refine lv_istore_n (lv' := [(3, .int _), (0, .ref _), (1, .int _), (2, .int _)]) X.1 X.2.1 dX11_isBest_10 rfl hl (by decide) rfl (fun ls hl => ?_)
  refine lv_iconst (v := 0) X.1 X.2.1 dX11_isBest_11 (by decide) ?_
  refine lv_istore (lv' := [(4, .int _), (3, .int _), (0, .ref _), (1, .int _), (2, .int _)]) X.1 X.2.1 dX11_isBest_12 hl (by decide) rfl (fun ls hl => ?_)
  exact c11_isBest_c14 X hk hd hn _ _ _ _ _ _ _ _ _ _ I (lv_sub hl [2, 3, 4, 1, 0] rfl) (fu1_lt _) (hE.trans (rfl))
