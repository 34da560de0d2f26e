noncomputable def f11_rule (σ : SI) (x1 : Int32) : Int32 := if (f8_isTold 10 σ) = true then (if x1 = 0 then (f8_timeThereIs 10 σ) else (if x1 = 1 then (σ 24 1) else (if x1 = 2 then (f8_growth 10 σ) else (if x1 = 3 then (f8_strength 10 σ) else (-1 : Int32))))) else (-1 : Int32)
set_option maxHeartbeats 4000000 in
set_option maxRecDepth 100000 in
theorem c11_rule (l : Launch) (G : GT) (σ : SI) (τ : SL) (x1 : Int32) : Mc l yX11_rule cX11_rule 2 (some .int) 4 G [.ref (G.2.1 0), .int x1] σ τ (Qi G (Ei (f11_rule σ x1) σ τ)) := by
  refine m_start (by decide +kernel) (Nat.le_of_ble_eq_true rfl) rfl (fun p e s m args below meth c ls X I hl => ?_)
  have hl : lv_has ls 2 [(0, .ref (G.2.1 0)), (1, .int x1)] := hl
  obtain ⟨E, hE⟩ : ∃ E, E = (f11_rule σ x1) := ⟨_, rfl⟩
  rw [← hE]
  refine lv_aload_n X.1 X.2.1 dX11_rule_0 rfl (lv_at hl 0 rfl) ?_
  refine g11_3 X I (k := 0) (by decide) rfl lf_X11_35 dX11_rule_1 ?_
  refine r_ei I (r_runV X I pk_X8_isTold (c8_isTold l G (k := 10) ⟨by decide, rfl, rfl, rfl⟩ _ _) lm_X11_154 (by decide) (cl_8 rfl) rfl rfl rfl hl.1 rfl (Nat.le_of_ble_eq_true rfl) dX11_rule_4 ⟨Nat.le_of_ble_eq_true rfl, Nat.le_of_ble_eq_true rfl⟩ ⟨Nat.le_refl 0, Nat.le_refl 0⟩) (fun H locs I => ?_)
  refine lv_if_ne (tgt := 12) X.1 X.2.1 dX11_rule_7 (by decide) (fun c_1 => ?_) (fun c_1 => ?_)
  · skip
    have hE := ite_t hE (b2i_y c_1)
    refine lv_iload_n X.1 X.2.1 dX11_rule_12 rfl (lv_at hl 1 rfl) ?_
    rcases Classical.em (x1 = 0) with c_2 | c_2
    · skip
      have hE := ite_t hE c_2
      refine lv_tableIn (off := 31) (tgt := 44) X.1 X.2.1 dX11_rule_13 (by rw [c_2]; decide) (by rw [c_2]; decide) (by rw [c_2]; decide) (by decide) ?_
      refine lv_aload_n X.1 X.2.1 dX11_rule_44 rfl (lv_at hl 0 rfl) ?_
      refine g11_3 X I (k := 0) (by decide) rfl lf_X11_35 dX11_rule_45 ?_
      refine r_ei I (r_runV X I pk_X8_timeThereIs (c8_timeThereIs l G (k := 10) ⟨by decide, rfl, rfl, rfl⟩ _ _) lm_X11_157 (by decide) (cl_8 rfl) rfl rfl rfl hl.1 rfl (Nat.le_of_ble_eq_true rfl) dX11_rule_48 ⟨Nat.le_of_ble_eq_true rfl, Nat.le_of_ble_eq_true rfl⟩ ⟨Nat.le_refl 0, Nat.le_refl 0⟩) (fun H locs I => ?_)
      have h9 := hE
      exact r_iret X I (e_i h9.symm rfl rfl) dX11_rule_51
    have hE := ite_f hE c_2
    rcases Classical.em (x1 = 1) with c_3 | c_3
    · skip
      have hE := ite_t hE c_3
      refine lv_tableIn (off := 39) (tgt := 52) X.1 X.2.1 dX11_rule_13 (by rw [c_3]; decide) (by rw [c_3]; decide) (by rw [c_3]; decide) (by decide) ?_
      refine lv_aload_n X.1 X.2.1 dX11_rule_52 rfl (lv_at hl 0 rfl) ?_
      refine g11_5 X I (k := 0) (by decide) rfl lf_X11_49 dX11_rule_53 ?_
      refine g0_1 X I (k := 24) (by decide) rfl lf_X11_160 dX11_rule_56 ?_
      have h9 := hE
      exact r_iret X I (e_i h9.symm rfl rfl) dX11_rule_59
    have hE := ite_f hE c_3
    rcases Classical.em (x1 = 2) with c_4 | c_4
    · skip
      have hE := ite_t hE c_4
      refine lv_tableIn (off := 47) (tgt := 60) X.1 X.2.1 dX11_rule_13 (by rw [c_4]; decide) (by rw [c_4]; decide) (by rw [c_4]; decide) (by decide) ?_
      refine lv_aload_n X.1 X.2.1 dX11_rule_60 rfl (lv_at hl 0 rfl) ?_
      refine g11_3 X I (k := 0) (by decide) rfl lf_X11_35 dX11_rule_61 ?_
      refine r_ei I (r_runV X I pk_X8_growth (c8_growth l G (k := 10) ⟨by decide, rfl, rfl, rfl⟩ _ _) lm_X11_163 (by decide) (cl_8 rfl) rfl rfl rfl hl.1 rfl (Nat.le_of_ble_eq_true rfl) dX11_rule_64 ⟨Nat.le_of_ble_eq_true rfl, Nat.le_of_ble_eq_true rfl⟩ ⟨Nat.le_refl 0, Nat.le_refl 0⟩) (fun H locs I => ?_)
      have h9 := hE
      exact r_iret X I (e_i h9.symm rfl rfl) dX11_rule_67
    have hE := ite_f hE c_4
    rcases Classical.em (x1 = 3) with c_5 | c_5
    · skip
      have hE := ite_t hE c_5
      refine lv_tableIn (off := 55) (tgt := 68) X.1 X.2.1 dX11_rule_13 (by rw [c_5]; decide) (by rw [c_5]; decide) (by rw [c_5]; decide) (by decide) ?_
      refine lv_aload_n X.1 X.2.1 dX11_rule_68 rfl (lv_at hl 0 rfl) ?_
      refine g11_3 X I (k := 0) (by decide) rfl lf_X11_35 dX11_rule_69 ?_
      refine r_ei I (r_runV X I pk_X8_strength (c8_strength l G (k := 10) ⟨by decide, rfl, rfl, rfl⟩ _ _) lm_X11_166 (by decide) (cl_8 rfl) rfl rfl rfl hl.1 rfl (Nat.le_of_ble_eq_true rfl) dX11_rule_72 ⟨Nat.le_of_ble_eq_true rfl, Nat.le_of_ble_eq_true rfl⟩ ⟨Nat.le_refl 0, Nat.le_refl 0⟩) (fun H locs I => ?_)
      have h9 := hE
      exact r_iret X I (e_i h9.symm rfl rfl) dX11_rule_75
    have hE := ite_f hE c_5
    refine lv_tableD (L := [0, 1, 2, 3]) (tgt := 76) X.1 X.2.1 dX11_rule_13 (by decide) (List.forall_mem_cons.mpr ⟨c_2, (List.forall_mem_cons.mpr ⟨c_3, (List.forall_mem_cons.mpr ⟨c_4, (List.forall_mem_cons.mpr ⟨c_5, (fun _ h => absurd h List.not_mem_nil)⟩)⟩)⟩)⟩) (by decide) ?_
    refine lv_iconst (v := (-1)) X.1 X.2.1 dX11_rule_76 (by decide) ?_
    have h9 := hE
    exact r_iret X I (e_i h9.symm rfl rfl) dX11_rule_77
  · skip
    have hE := ite_f hE (b2i_n c_1)
    refine lv_iconst (v := (-1)) X.1 X.2.1 dX11_rule_10 (by decide) ?_
    have h9 := hE
    exact r_iret X I (e_i h9.symm rfl rfl) dX11_rule_11
noncomputable def f11_bearer (σ : SI) (x1 : Int32) : Int32 := if x1 < (0 : Int32) then (-1 : Int32) else (if (f8_bearers 10 σ) ≤ x1 then (-1 : Int32) else (f8_strengthOf 10 σ x1))
set_option maxHeartbeats 4000000 in
set_option maxRecDepth 100000 in
theorem c11_bearer (l : Launch) (G : GT) (σ : SI) (τ : SL) (x1 : Int32) : Mc l yX11_bearer cX11_bearer 2 (some .int) 3 G [.ref (G.2.1 0), .int x1] σ τ (Qi G (Ei (f11_bearer σ x1) σ τ)) := by
  refine m_start (by decide +kernel) (Nat.le_of_ble_eq_true rfl) rfl (fun p e s m args below meth c ls X I hl => ?_)
  have hl : lv_has ls 2 [(0, .ref (G.2.1 0)), (1, .int x1)] := hl
  obtain ⟨E, hE⟩ : ∃ E, E = (f11_bearer σ x1) := ⟨_, rfl⟩
  rw [← hE]
  refine lv_iload_n X.1 X.2.1 dX11_bearer_0 rfl (lv_at hl 1 rfl) ?_
  refine lv_if_lt (tgt := 26) X.1 X.2.1 dX11_bearer_1 (by decide) (fun c_1 => ?_) (fun c_1 => ?_)
  · skip
    have hE := ite_t hE c_1
    refine lv_iconst (v := (-1)) X.1 X.2.1 dX11_bearer_26 (by decide) ?_
    have h9 := hE
    exact r_iret X I (e_i h9.symm rfl rfl) dX11_bearer_27
  · skip
    have hE := ite_f hE c_1
    refine lv_iload_n X.1 X.2.1 dX11_bearer_4 rfl (lv_at hl 1 rfl) ?_
    refine lv_aload_n X.1 X.2.1 dX11_bearer_5 rfl (lv_at hl 0 rfl) ?_
    refine g11_3 X I (k := 0) (by decide) rfl lf_X11_35 dX11_bearer_6 ?_
    refine r_ei I (r_runV X I pk_X8_bearers (c8_bearers l G (k := 10) ⟨by decide, rfl, rfl, rfl⟩ _ _) lm_X11_191 (by decide) (cl_8 rfl) rfl rfl rfl hl.1 rfl (Nat.le_of_ble_eq_true rfl) dX11_bearer_9 ⟨Nat.le_of_ble_eq_true rfl, Nat.le_of_ble_eq_true rfl⟩ ⟨Nat.le_refl 0, Nat.le_refl 0⟩) (fun H locs I => ?_)
    refine lv_icmp_ge (tgt := 26) X.1 X.2.1 dX11_bearer_12 (by decide) (fun c_2 => ?_) (fun c_2 => ?_)
    · skip
      have hE := ite_t hE c_2
      refine lv_iconst (v := (-1)) X.1 X.2.1 dX11_bearer_26 (by decide) ?_
      have h9 := hE
      exact r_iret X I (e_i h9.symm rfl rfl) dX11_bearer_27
    · skip
      have hE := ite_f hE c_2
      refine lv_aload_n X.1 X.2.1 dX11_bearer_15 rfl (lv_at hl 0 rfl) ?_
      refine g11_3 X I (k := 0) (by decide) rfl lf_X11_35 dX11_bearer_16 ?_
      refine lv_iload_n X.1 X.2.1 dX11_bearer_19 rfl (lv_at hl 1 rfl) ?_
      refine r_ei I (r_runV X I pk_X8_strengthOf (c8_strengthOf l G (k := 10) ⟨by decide, rfl, rfl, rfl⟩ _ _ _) lm_X11_194 (by decide) (cl_8 rfl) rfl rfl rfl hl.1 rfl (Nat.le_of_ble_eq_true rfl) dX11_bearer_20 ⟨Nat.le_of_ble_eq_true rfl, Nat.le_of_ble_eq_true rfl⟩ ⟨Nat.le_refl 0, Nat.le_refl 0⟩) (fun H locs I => ?_)
      refine lv_goto (tgt := 27) X.1 X.2.1 dX11_bearer_23 (by decide) ?_
      have h9 := hE
      exact r_iret X I (e_i h9.symm rfl rfl) dX11_bearer_27
noncomputable def f11_law (σ : SI) (x1 : Int32) : Bool × SI := let r0 := (f2_choose σ x1); r0
theorem w_f11_law (σ : SI) (x1 : Int32) (a : Nat) (h0 : a ≠ 13) : (f11_law σ x1).2 a = σ a := by
  refine fp_to2 ?_
  unfold f11_law
  exact (w_f2_choose _ _ a h0)
set_option maxHeartbeats 4000000 in
set_option maxRecDepth 100000 in
theorem c11_law (l : Launch) (G : GT) (σ : SI) (τ : SL) (x1 : Int32) : Mc l yX11_law cX11_law 2 (some .boolean) 1 G [.ref (G.2.1 0), .int x1] σ τ (Qi G (Ei (b2i (f11_law σ x1).1) (f11_law σ x1).2 τ)) := by
  refine m_start (by decide +kernel) (Nat.le_of_ble_eq_true rfl) rfl (fun p e s m args below meth c ls X I hl => ?_)
  have hl : lv_has ls 2 [(0, .ref (G.2.1 0)), (1, .int x1)] := hl
  obtain ⟨E, hE⟩ : ∃ E, E = (f11_law σ x1) := ⟨_, rfl⟩
  rw [← hE]
  refine lv_aload_n X.1 X.2.1 dX11_law_0 rfl (lv_at hl 0 rfl) ?_
  refine g11_4 X I (k := 0) (by decide) rfl lf_X11_42 dX11_law_1 ?_
  refine lv_iload_n X.1 X.2.1 dX11_law_4 rfl (lv_at hl 1 rfl) ?_
  refine r_ei I (r_runV X I pk_X2_choose (c2_choose l G _ _ _) lm_X11_197 (by decide) (cl_2 rfl) rfl rfl rfl hl.1 rfl (Nat.le_of_ble_eq_true rfl) dX11_law_5 ⟨Nat.le_of_ble_eq_true rfl, Nat.le_of_ble_eq_true rfl⟩ ⟨Nat.le_refl 0, Nat.le_refl 0⟩) (fun H locs I => ?_)
  have h9 := hE
  exact r_zret X I (b2i_nar _) (e_i (congrArg b2i (congrArg Prod.fst h9)).symm (congrArg Prod.snd h9).symm rfl) dX11_law_8
noncomputable def f11_stepsTo (σ : SI) (x1 : Int32) : Int32 := (f8_distance 10 σ (σ 24 4) x1)
set_option maxHeartbeats 4000000 in
set_option maxRecDepth 100000 in
theorem c11_stepsTo (l : Launch) (G : GT) (σ : SI) (τ : SL) (x1 : Int32) : Mc l yX11_stepsTo cX11_stepsTo 2 (some .int) 3 G [.ref (G.2.1 0), .int x1] σ τ (Qi G (Ei (f11_stepsTo σ x1) σ τ)) := by
  refine m_start (by decide +kernel) (Nat.le_of_ble_eq_true rfl) rfl (fun p e s m args below meth c ls X I hl => ?_)
  have hl : lv_has ls 2 [(0, .ref (G.2.1 0)), (1, .int x1)] := hl
  obtain ⟨E, hE⟩ : ∃ E, E = (f11_stepsTo σ x1) := ⟨_, rfl⟩
  rw [← hE]
  refine lv_aload_n X.1 X.2.1 dX11_stepsTo_0 rfl (lv_at hl 0 rfl) ?_
  refine g11_3 X I (k := 0) (by decide) rfl lf_X11_35 dX11_stepsTo_1 ?_
  refine lv_aload_n X.1 X.2.1 dX11_stepsTo_4 rfl (lv_at hl 0 rfl) ?_
  refine g11_5 X I (k := 0) (by decide) rfl lf_X11_49 dX11_stepsTo_5 ?_
  refine g0_4 X I (k := 24) (by decide) rfl lf_X11_210 dX11_stepsTo_8 ?_
  refine lv_iload_n X.1 X.2.1 dX11_stepsTo_11 rfl (lv_at hl 1 rfl) ?_
  refine r_ei I (r_runV X I pk_X8_distance (c8_distance l G (k := 10) ⟨by decide, rfl, rfl, rfl⟩ _ _ _ _) lm_X11_203 (by decide) (cl_8 rfl) rfl rfl rfl hl.1 rfl (Nat.le_of_ble_eq_true rfl) dX11_stepsTo_12 ⟨Nat.le_of_ble_eq_true rfl, Nat.le_of_ble_eq_true rfl⟩ ⟨Nat.le_refl 0, Nat.le_refl 0⟩) (fun H locs I => ?_)
  have h9 := hE
  exact r_iret X I (e_i h9.symm rfl rfl) dX11_stepsTo_15
noncomputable def f11_steps (σ : SI) (x1 : Int32) (x2 : Int32) : Int32 := if x1 = (-1 : Int32) then (if (f8_isHouse 10 σ x2) = true then (if x1 = (-1 : Int32) then (f11_stepsTo σ x2) else (f8_distance 10 σ x1 x2)) else (-1 : Int32)) else (if (f8_isHouse 10 σ x1) = true then (if (f8_isHouse 10 σ x2) = true then (if x1 = (-1 : Int32) then (f11_stepsTo σ x2) else (f8_distance 10 σ x1 x2)) else (-1 : Int32)) else (-1 : Int32))
set_option maxHeartbeats 4000000 in
set_option maxRecDepth 100000 in
theorem c11_steps (l : Launch) (G : GT) (σ : SI) (τ : SL) (x1 : Int32) (x2 : Int32) : Mc l yX11_steps cX11_steps 3 (some .int) 4 G [.ref (G.2.1 0), .int x1, .int x2] σ τ (Qi G (Ei (f11_steps σ x1 x2) σ τ)) := by
  refine m_start (by decide +kernel) (Nat.le_of_ble_eq_true rfl) rfl (fun p e s m args below meth c ls X I hl => ?_)
  have hl : lv_has ls 3 [(0, .ref (G.2.1 0)), (1, .int x1), (2, .int x2)] := hl
  obtain ⟨E, hE⟩ : ∃ E, E = (f11_steps σ x1 x2) := ⟨_, rfl⟩
  rw [← hE]
  refine lv_iload_n X.1 X.2.1 dX11_steps_0 rfl (lv_at hl 1 rfl) ?_
  refine lv_iconst (v := (-1)) X.1 X.2.1 dX11_steps_1 (by decide) ?_
  refine lv_icmp_eq (tgt := 16) X.1 X.2.1 dX11_steps_2 (by decide) (fun c_1 => ?_) (fun c_1 => ?_)
  · skip
    have hE := ite_t hE c_1
    refine lv_aload_n X.1 X.2.1 dX11_steps_16 rfl (lv_at hl 0 rfl) ?_
    refine g11_3 X I (k := 0) (by decide) rfl lf_X11_35 dX11_steps_17 ?_
    refine lv_iload_n X.1 X.2.1 dX11_steps_20 rfl (lv_at hl 2 rfl) ?_
    refine r_ei I (r_runV X I pk_X8_isHouse (c8_isHouse l G (k := 10) ⟨by decide, rfl, rfl, rfl⟩ _ _ _) lm_X11_169 (by decide) (cl_8 rfl) rfl rfl rfl hl.1 rfl (Nat.le_of_ble_eq_true rfl) dX11_steps_21 ⟨Nat.le_of_ble_eq_true rfl, Nat.le_of_ble_eq_true rfl⟩ ⟨Nat.le_refl 0, Nat.le_refl 0⟩) (fun H locs I => ?_)
    refine lv_if_ne (tgt := 29) X.1 X.2.1 dX11_steps_24 (by decide) (fun c_2 => ?_) (fun c_2 => ?_)
    · skip
      have hE := ite_t hE (b2i_y c_2)
      refine lv_iload_n X.1 X.2.1 dX11_steps_29 rfl (lv_at hl 1 rfl) ?_
      refine lv_iconst (v := (-1)) X.1 X.2.1 dX11_steps_30 (by decide) ?_
      refine lv_icmp_ne (tgt := 42) X.1 X.2.1 dX11_steps_31 (by decide) (fun c_3 => ?_) (fun c_3 => ?_)
      · skip
        have hE := ite_f hE c_3
        refine lv_aload_n X.1 X.2.1 dX11_steps_42 rfl (lv_at hl 0 rfl) ?_
        refine g11_3 X I (k := 0) (by decide) rfl lf_X11_35 dX11_steps_43 ?_
        refine lv_iload_n X.1 X.2.1 dX11_steps_46 rfl (lv_at hl 1 rfl) ?_
        refine lv_iload_n X.1 X.2.1 dX11_steps_47 rfl (lv_at hl 2 rfl) ?_
        refine r_ei I (r_runV X I pk_X8_distance (c8_distance l G (k := 10) ⟨by decide, rfl, rfl, rfl⟩ _ _ _ _) lm_X11_203 (by decide) (cl_8 rfl) rfl rfl rfl hl.1 rfl (Nat.le_of_ble_eq_true rfl) dX11_steps_48 ⟨Nat.le_of_ble_eq_true rfl, Nat.le_of_ble_eq_true rfl⟩ ⟨Nat.le_refl 0, Nat.le_refl 0⟩) (fun H locs I => ?_)
        have h9 := hE
        exact r_iret X I (e_i h9.symm rfl rfl) dX11_steps_51
      · skip
        have hE := ite_t hE c_3
        refine lv_aload_n X.1 X.2.1 dX11_steps_34 rfl (lv_at hl 0 rfl) ?_
        refine lv_iload_n X.1 X.2.1 dX11_steps_35 rfl (lv_at hl 2 rfl) ?_
        refine r_ei I (r_runV X I pk_X11_stepsTo (c11_stepsTo l G _ _ _) lm_X11_200 (by decide) (cl_11 rfl) rfl rfl rfl hl.1 rfl (Nat.le_of_ble_eq_true rfl) dX11_steps_36 ⟨Nat.le_of_ble_eq_true rfl, Nat.le_of_ble_eq_true rfl⟩ ⟨Nat.le_refl 0, Nat.le_refl 0⟩) (fun H locs I => ?_)
        refine lv_goto (tgt := 51) X.1 X.2.1 dX11_steps_39 (by decide) ?_
        have h9 := hE
        exact r_iret X I (e_i h9.symm rfl rfl) dX11_steps_51
    · skip
      have hE := ite_f hE (b2i_n c_2)
      refine lv_iconst (v := (-1)) X.1 X.2.1 dX11_steps_27 (by decide) ?_
      have h9 := hE
      exact r_iret X I (e_i h9.symm rfl rfl) dX11_steps_28
  · skip
    have hE := ite_f hE c_1
    refine lv_aload_n X.1 X.2.1 dX11_steps_5 rfl (lv_at hl 0 rfl) ?_
    refine g11_3 X I (k := 0) (by decide) rfl lf_X11_35 dX11_steps_6 ?_
    refine lv_iload_n X.1 X.2.1 dX11_steps_9 rfl (lv_at hl 1 rfl) ?_
    refine r_ei I (r_runV X I pk_X8_isHouse (c8_isHouse l G (k := 10) ⟨by decide, rfl, rfl, rfl⟩ _ _ _) lm_X11_169 (by decide) (cl_8 rfl) rfl rfl rfl hl.1 rfl (Nat.le_of_ble_eq_true rfl) dX11_steps_10 ⟨Nat.le_of_ble_eq_true rfl, Nat.le_of_ble_eq_true rfl⟩ ⟨Nat.le_refl 0, Nat.le_refl 0⟩) (fun H locs I => ?_)
    refine lv_if_eq (tgt := 27) X.1 X.2.1 dX11_steps_13 (by decide) (fun c_4 => ?_) (fun c_4 => ?_)
    · skip
      have hE := ite_f hE (b2i_n c_4)
      refine lv_iconst (v := (-1)) X.1 X.2.1 dX11_steps_27 (by decide) ?_
      have h9 := hE
      exact r_iret X I (e_i h9.symm rfl rfl) dX11_steps_28
    · skip
      have hE := ite_t hE (b2i_y c_4)
      refine lv_aload_n X.1 X.2.1 dX11_steps_16 rfl (lv_at hl 0 rfl) ?_
      refine g11_3 X I (k := 0) (by decide) rfl lf_X11_35 dX11_steps_17 ?_
      refine lv_iload_n X.1 X.2.1 dX11_steps_20 rfl (lv_at hl 2 rfl) ?_
      refine r_ei I (r_runV X I pk_X8_isHouse (c8_isHouse l G (k := 10) ⟨by decide, rfl, rfl, rfl⟩ _ _ _) lm_X11_169 (by decide) (cl_8 rfl) rfl rfl rfl hl.1 rfl (Nat.le_of_ble_eq_true rfl) dX11_steps_21 ⟨Nat.le_of_ble_eq_true rfl, Nat.le_of_ble_eq_true rfl⟩ ⟨Nat.le_refl 0, Nat.le_refl 0⟩) (fun H locs I => ?_)
      refine lv_if_ne (tgt := 29) X.1 X.2.1 dX11_steps_24 (by decide) (fun c_5 => ?_) (fun c_5 => ?_)
      · skip
        have hE := ite_t hE (b2i_y c_5)
        refine lv_iload_n X.1 X.2.1 dX11_steps_29 rfl (lv_at hl 1 rfl) ?_
        refine lv_iconst (v := (-1)) X.1 X.2.1 dX11_steps_30 (by decide) ?_
        refine lv_icmp_ne (tgt := 42) X.1 X.2.1 dX11_steps_31 (by decide) (fun c_6 => ?_) (fun c_6 => ?_)
        · skip
          have hE := ite_f hE c_6
          refine lv_aload_n X.1 X.2.1 dX11_steps_42 rfl (lv_at hl 0 rfl) ?_
          refine g11_3 X I (k := 0) (by decide) rfl lf_X11_35 dX11_steps_43 ?_
          refine lv_iload_n X.1 X.2.1 dX11_steps_46 rfl (lv_at hl 1 rfl) ?_
          refine lv_iload_n X.1 X.2.1 dX11_steps_47 rfl (lv_at hl 2 rfl) ?_
          refine r_ei I (r_runV X I pk_X8_distance (c8_distance l G (k := 10) ⟨by decide, rfl, rfl, rfl⟩ _ _ _ _) lm_X11_203 (by decide) (cl_8 rfl) rfl rfl rfl hl.1 rfl (Nat.le_of_ble_eq_true rfl) dX11_steps_48 ⟨Nat.le_of_ble_eq_true rfl, Nat.le_of_ble_eq_true rfl⟩ ⟨Nat.le_refl 0, Nat.le_refl 0⟩) (fun H locs I => ?_)
          have h9 := hE
          exact r_iret X I (e_i h9.symm rfl rfl) dX11_steps_51
        · skip
          have hE := ite_t hE c_6
          refine lv_aload_n X.1 X.2.1 dX11_steps_34 rfl (lv_at hl 0 rfl) ?_
          refine lv_iload_n X.1 X.2.1 dX11_steps_35 rfl (lv_at hl 2 rfl) ?_
          refine r_ei I (r_runV X I pk_X11_stepsTo (c11_stepsTo l G _ _ _) lm_X11_200 (by decide) (cl_11 rfl) rfl rfl rfl hl.1 rfl (Nat.le_of_ble_eq_true rfl) dX11_steps_36 ⟨Nat.le_of_ble_eq_true rfl, Nat.le_of_ble_eq_true rfl⟩ ⟨Nat.le_refl 0, Nat.le_refl 0⟩) (fun H locs I => ?_)
          refine lv_goto (tgt := 51) X.1 X.2.1 dX11_steps_39 (by decide) ?_
          have h9 := hE
          exact r_iret X I (e_i h9.symm rfl rfl) dX11_steps_51
      · skip
        have hE := ite_f hE (b2i_n c_5)
        refine lv_iconst (v := (-1)) X.1 X.2.1 dX11_steps_27 (by decide) ?_
        have h9 := hE
        exact r_iret X I (e_i h9.symm rfl rfl) dX11_steps_28
noncomputable def f11_standsNow (σ : SI) (x1 : Int32) (x2 : Int32) : Int32 × SI := let r0 := (f2_standing σ x2 (f8_isThankful 10 σ x1) ((σ 24 2) + (f11_stepsTo σ x1)) (f0_doors 24 σ) (f11_stepsTo σ x1) (σ 24 6)); r0
theorem w_f11_standsNow (σ : SI) (x1 : Int32) (x2 : Int32) (a : Nat) (h0 : a ≠ 13) (h1 : a ≠ 15) : (f11_standsNow σ x1 x2).2 a = σ a := by
  refine fp_to2 ?_
  unfold f11_standsNow
  exact (w_f2_standing _ _ _ _ _ _ _ a h0 h1)
set_option maxHeartbeats 4000000 in
set_option maxRecDepth 100000 in
theorem c11_standsNow (l : Launch) (G : GT) (σ : SI) (τ : SL) (x1 : Int32) (x2 : Int32) : Mc l yX11_standsNow cX11_standsNow 4 (some .int) 4 G [.ref (G.2.1 0), .int x1, .int x2] σ τ (Qi G (Ei (f11_standsNow σ x1 x2).1 (f11_standsNow σ x1 x2).2 τ)) := by
  refine m_start (by decide +kernel) (Nat.le_of_ble_eq_true rfl) rfl (fun p e s m args below meth c ls X I hl => ?_)
  have hl : lv_has ls 4 [(0, .ref (G.2.1 0)), (1, .int x1), (2, .int x2)] := hl
  obtain ⟨E, hE⟩ : ∃ E, E = (f11_standsNow σ x1 x2) := ⟨_, rfl⟩
  rw [← hE]
  refine lv_aload_n X.1 X.2.1 dX11_standsNow_0 rfl (lv_at hl 0 rfl) ?_
  refine lv_iload_n X.1 X.2.1 dX11_standsNow_1 rfl (lv_at hl 1 rfl) ?_
  refine r_ei I (r_runV X I pk_X11_stepsTo (c11_stepsTo l G _ _ _) lm_X11_200 (by decide) (cl_11 rfl) rfl rfl rfl hl.1 rfl (Nat.le_of_ble_eq_true rfl) dX11_standsNow_2 ⟨Nat.le_of_ble_eq_true rfl, Nat.le_of_ble_eq_true rfl⟩ ⟨Nat.le_refl 0, Nat.le_refl 0⟩) (fun H locs I => ?_)
  refine lv_istore_n (lv' := [(3, .int _), (0, .ref _), (1, .int _), (2, .int _)]) X.1 X.2.1 dX11_standsNow_5 rfl hl (by decide) rfl (fun ls hl => ?_)
  refine lv_aload_n X.1 X.2.1 dX11_standsNow_6 rfl (lv_at hl 1 rfl) ?_
  refine g11_4 X I (k := 0) (by decide) rfl lf_X11_42 dX11_standsNow_7 ?_
  refine lv_iload_n X.1 X.2.1 dX11_standsNow_10 rfl (lv_at hl 3 rfl) ?_
  refine lv_aload_n X.1 X.2.1 dX11_standsNow_11 rfl (lv_at hl 1 rfl) ?_
  refine g11_3 X I (k := 0) (by decide) rfl lf_X11_35 dX11_standsNow_12 ?_
  refine lv_iload_n X.1 X.2.1 dX11_standsNow_15 rfl (lv_at hl 2 rfl) ?_
  refine r_ei I (r_runV X I pk_X8_isThankful (c8_isThankful l G (k := 10) ⟨by decide, rfl, rfl, rfl⟩ _ _ _) lm_X11_185 (by decide) (cl_8 rfl) rfl rfl rfl hl.1 rfl (Nat.le_of_ble_eq_true rfl) dX11_standsNow_16 ⟨Nat.le_of_ble_eq_true rfl, Nat.le_of_ble_eq_true rfl⟩ ⟨Nat.le_refl 0, Nat.le_refl 0⟩) (fun H locs I => ?_)
  refine lv_aload_n X.1 X.2.1 dX11_standsNow_19 rfl (lv_at hl 1 rfl) ?_
  refine g11_5 X I (k := 0) (by decide) rfl lf_X11_49 dX11_standsNow_20 ?_
  refine g0_2 X I (k := 24) (by decide) rfl lf_X11_213 dX11_standsNow_23 ?_
  refine lv_iload_n X.1 X.2.1 dX11_standsNow_26 rfl (lv_at hl 0 rfl) ?_
  refine lv_iadd X.1 X.2.1 dX11_standsNow_27 ?_
  refine lv_aload_n X.1 X.2.1 dX11_standsNow_28 rfl (lv_at hl 1 rfl) ?_
  refine g11_5 X I (k := 0) (by decide) rfl lf_X11_49 dX11_standsNow_29 ?_
  refine r_ei I (r_runV X I pk_X0_doors (c0_doors l G (k := 24) ⟨by decide, rfl, rfl⟩ _ _) lm_X11_216 (by decide) (cl_0 rfl) rfl rfl rfl hl.1 rfl (Nat.le_of_ble_eq_true rfl) dX11_standsNow_32 ⟨Nat.le_of_ble_eq_true rfl, Nat.le_of_ble_eq_true rfl⟩ ⟨Nat.le_refl 0, Nat.le_refl 0⟩) (fun H locs I => ?_)
  refine lv_iload_n X.1 X.2.1 dX11_standsNow_35 rfl (lv_at hl 0 rfl) ?_
  refine lv_aload_n X.1 X.2.1 dX11_standsNow_36 rfl (lv_at hl 1 rfl) ?_
  refine g11_5 X I (k := 0) (by decide) rfl lf_X11_49 dX11_standsNow_37 ?_
  refine g0_6 X I (k := 24) (by decide) rfl lf_X11_219 dX11_standsNow_40 ?_
  refine r_ei I (r_runV X I pk_X2_standing (c2_standing l G _ _ _ _ _ _ _ _) lm_X11_222 (by decide) (cl_2 rfl) rfl rfl rfl hl.1 rfl (Nat.le_of_ble_eq_true rfl) dX11_standsNow_43 ⟨Nat.le_of_ble_eq_true rfl, Nat.le_of_ble_eq_true rfl⟩ ⟨Nat.le_refl 0, Nat.le_refl 0⟩) (fun H locs I => ?_)
  have h9 := hE
  exact r_iret X I (e_i (congrArg Prod.fst h9).symm (congrArg Prod.snd h9).symm rfl) dX11_standsNow_46
noncomputable def f11_stands (σ : SI) (x1 : Int32) : Int32 × SI := if (f8_isHouse 10 σ x1) = true then (let r0 := (f11_standsNow σ x1 (f0_grievanceOf 24 σ x1)); r0) else ((-1 : Int32), σ)
theorem w_f11_stands (σ : SI) (x1 : Int32) (a : Nat) (h0 : a ≠ 13) (h1 : a ≠ 15) : (f11_stands σ x1).2 a = σ a := by
  refine fp_to2 ?_
  unfold f11_stands
  exact (fr_ite2 (w_f11_standsNow _ _ _ a h0 h1) (fr_mk21 rfl))
set_option maxHeartbeats 4000000 in
set_option maxRecDepth 100000 in
theorem c11_stands (l : Launch) (G : GT) (σ : SI) (τ : SL) (x1 : Int32) : Mc l yX11_stands cX11_stands 2 (some .int) 5 G [.ref (G.2.1 0), .int x1] σ τ (Qi G (Ei (f11_stands σ x1).1 (f11_stands σ x1).2 τ)) := by
  refine m_start (by decide +kernel) (Nat.le_of_ble_eq_true rfl) rfl (fun p e s m args below meth c ls X I hl => ?_)
  have hl : lv_has ls 2 [(0, .ref (G.2.1 0)), (1, .int x1)] := hl
  obtain ⟨E, hE⟩ : ∃ E, E = (f11_stands σ x1) := ⟨_, rfl⟩
  rw [← hE]
  refine lv_aload_n X.1 X.2.1 dX11_stands_0 rfl (lv_at hl 0 rfl) ?_
  refine g11_3 X I (k := 0) (by decide) rfl lf_X11_35 dX11_stands_1 ?_
  refine lv_iload_n X.1 X.2.1 dX11_stands_4 rfl (lv_at hl 1 rfl) ?_
  refine r_ei I (r_runV X I pk_X8_isHouse (c8_isHouse l G (k := 10) ⟨by decide, rfl, rfl, rfl⟩ _ _ _) lm_X11_169 (by decide) (cl_8 rfl) rfl rfl rfl hl.1 rfl (Nat.le_of_ble_eq_true rfl) dX11_stands_5 ⟨Nat.le_of_ble_eq_true rfl, Nat.le_of_ble_eq_true rfl⟩ ⟨Nat.le_refl 0, Nat.le_refl 0⟩) (fun H locs I => ?_)
  refine lv_if_eq (tgt := 27) X.1 X.2.1 dX11_stands_8 (by decide) (fun c_1 => ?_) (fun c_1 => ?_)
  · skip
    have hE := ite_f hE (b2i_n c_1)
    refine lv_iconst (v := (-1)) X.1 X.2.1 dX11_stands_27 (by decide) ?_
    have h9 := hE
    exact r_iret X I (e_i (pr_fst h9) (pr_snd h9) rfl) dX11_stands_28
  · skip
    have hE := ite_t hE (b2i_y c_1)
    refine lv_aload_n X.1 X.2.1 dX11_stands_11 rfl (lv_at hl 0 rfl) ?_
    refine lv_iload_n X.1 X.2.1 dX11_stands_12 rfl (lv_at hl 1 rfl) ?_
    refine lv_aload_n X.1 X.2.1 dX11_stands_13 rfl (lv_at hl 0 rfl) ?_
    refine g11_5 X I (k := 0) (by decide) rfl lf_X11_49 dX11_stands_14 ?_
    refine lv_iload_n X.1 X.2.1 dX11_stands_17 rfl (lv_at hl 1 rfl) ?_
    refine r_ei I (r_runV X I pk_X0_grievanceOf (c0_grievanceOf l G (k := 24) ⟨by decide, rfl, rfl⟩ _ _ _) lm_X11_182 (by decide) (cl_0 rfl) rfl rfl rfl hl.1 rfl (Nat.le_of_ble_eq_true rfl) dX11_stands_18 ⟨Nat.le_of_ble_eq_true rfl, Nat.le_of_ble_eq_true rfl⟩ ⟨Nat.le_refl 0, Nat.le_refl 0⟩) (fun H locs I => ?_)
    refine r_ei I (r_runV X I pk_X11_standsNow (c11_standsNow l G _ _ _ _) lm_X11_207 (by decide) (cl_11 rfl) rfl rfl rfl hl.1 rfl (Nat.le_of_ble_eq_true rfl) dX11_stands_21 ⟨Nat.le_of_ble_eq_true rfl, Nat.le_of_ble_eq_true rfl⟩ ⟨Nat.le_refl 0, Nat.le_refl 0⟩) (fun H locs I => ?_)
    refine lv_goto (tgt := 28) X.1 X.2.1 dX11_stands_24 (by decide) ?_
    have h9 := hE
    exact r_iret X I (e_i (congrArg Prod.fst h9).symm (congrArg Prod.snd h9).symm rfl) dX11_stands_28
