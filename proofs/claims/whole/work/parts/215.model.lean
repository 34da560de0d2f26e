noncomputable def f12_bearer (σ : SI) (x1 : Int32) : Int32 := if (f12_in x1 (0 : Int32) ((σ 123 26) - (1 : Int32))) = true then (σ 139 (Int32.toNatClampNeg x1)) else (-1 : Int32)
noncomputable def o12_bearer (σ : SI) (x1 : Int32) : Prop := if (f12_in x1 (0 : Int32) ((σ 123 26) - (1 : Int32))) = true then ((vp_in x1 5) ∧ True) else True
set_option maxHeartbeats 4000000 in
set_option maxRecDepth 100000 in
theorem c12_bearer (l : Launch) (G : GT) (σ : SI) (τ : SL) (x1 : Int32) (ho : o12_bearer σ x1) : Mc l yX12_bearer cX12_bearer 2 (some .int) 1 G [.ref (G.2.1 123), .int x1] σ τ (Qi G (Ei (f12_bearer σ x1) σ τ)) := by
  refine m_start (by decide +kernel) (Nat.le_of_ble_eq_true rfl) rfl (fun p e s m args below meth c ls X I hl => ?_)
  have hl : lv_has ls 2 [(0, .ref (G.2.1 123)), (1, .int x1)] := hl
  obtain ⟨E, hE⟩ : ∃ E, E = (f12_bearer σ x1) := ⟨_, rfl⟩
  rw [← hE]
  unfold o12_bearer at ho
  refine lv_iload_n X.1 X.2.1 dX12_bearer_0 rfl (lv_at hl 1 rfl) ?_
  refine lv_iconst (v := 0) X.1 X.2.1 dX12_bearer_1 (by decide) ?_
  refine lv_aload_n X.1 X.2.1 dX12_bearer_2 rfl (lv_at hl 0 rfl) ?_
  refine g12_26 X I (k := 123) (by decide) rfl lf_X12_267 dX12_bearer_3 ?_
  refine lv_iconst (v := 1) X.1 X.2.1 dX12_bearer_6 (by decide) ?_
  refine lv_isub X.1 X.2.1 dX12_bearer_7 ?_
  refine r_ei I (r_runS X I pk_X12_in (c12_in l G _ _ _ _ _) lm_X12_220 rfl hl.1 rfl (Nat.le_of_ble_eq_true rfl) dX12_bearer_8 ⟨Nat.le_of_ble_eq_true rfl, Nat.le_of_ble_eq_true rfl⟩ ⟨Nat.le_refl 0, Nat.le_refl 0⟩) (fun H locs I => ?_)
  refine lv_if_eq (tgt := 23) X.1 X.2.1 dX12_bearer_11 (by decide) (fun c_1 => ?_) (fun c_1 => ?_)
  · skip
    have hE := ite_f hE (b2i_n c_1)
    have ho := ite_fP ho (b2i_n c_1)
    refine lv_iconst (v := (-1)) X.1 X.2.1 dX12_bearer_23 (by decide) ?_
    have h9 := hE
    exact r_iret X I (e_i h9.symm rfl rfl) dX12_bearer_24
  · skip
    have hE := ite_t hE (b2i_y c_1)
    have ho := ite_tP ho (b2i_y c_1)
    refine lv_aload_n X.1 X.2.1 dX12_bearer_14 rfl (lv_at hl 0 rfl) ?_
    refine g12_24 X I (k := 123) (by decide) rfl lf_X12_55 dX12_bearer_15 ?_
    refine lv_iload_n X.1 X.2.1 dX12_bearer_18 rfl (lv_at hl 1 rfl) ?_
    have ho1 := ho.1
    have ho := ho.2
    refine r_ald X I (k := 139) (n := 5) (by decide) rfl ho1 dX12_bearer_19 ?_
    refine lv_goto (tgt := 24) X.1 X.2.1 dX12_bearer_20 (by decide) ?_
    have h9 := hE
    exact r_iret X I (e_i h9.symm rfl rfl) dX12_bearer_24
noncomputable def f12_law (σ : SI) (x1 : Int32) : Bool × SI := if (f12_in x1 (-1 : Int32) ((σ 123 13) - (1 : Int32))) = true then (let s0 := sp σ 123 29 x1; (true, s0)) else (false, σ)
theorem w_f12_law (σ : SI) (x1 : Int32) (a : Nat) (h0 : a ≠ 123) : (f12_law σ x1).2 a = σ a := by
  refine fp_to2 ?_
  unfold f12_law
  exact (fr_ite2 (fr_mk21 (sp_n h0)) (fr_mk21 rfl))
set_option maxHeartbeats 4000000 in
set_option maxRecDepth 100000 in
theorem c12_law (l : Launch) (G : GT) (σ : SI) (τ : SL) (x1 : Int32) : Mc l yX12_law cX12_law 2 (some .boolean) 1 G [.ref (G.2.1 123), .int x1] σ τ (Qi G (Ei (b2i (f12_law σ x1).1) (f12_law σ x1).2 τ)) := by
  refine m_start (by decide +kernel) (Nat.le_of_ble_eq_true rfl) rfl (fun p e s m args below meth c ls X I hl => ?_)
  have hl : lv_has ls 2 [(0, .ref (G.2.1 123)), (1, .int x1)] := hl
  obtain ⟨E, hE⟩ : ∃ E, E = (f12_law σ x1) := ⟨_, rfl⟩
  rw [← hE]
  refine lv_iload_n X.1 X.2.1 dX12_law_0 rfl (lv_at hl 1 rfl) ?_
  refine lv_iconst (v := (-1)) X.1 X.2.1 dX12_law_1 (by decide) ?_
  refine lv_aload_n X.1 X.2.1 dX12_law_2 rfl (lv_at hl 0 rfl) ?_
  refine g12_13 X I (k := 123) (by decide) rfl lf_X12_289 dX12_law_3 ?_
  refine lv_iconst (v := 1) X.1 X.2.1 dX12_law_6 (by decide) ?_
  refine lv_isub X.1 X.2.1 dX12_law_7 ?_
  refine r_ei I (r_runS X I pk_X12_in (c12_in l G _ _ _ _ _) lm_X12_220 rfl hl.1 rfl (Nat.le_of_ble_eq_true rfl) dX12_law_8 ⟨Nat.le_of_ble_eq_true rfl, Nat.le_of_ble_eq_true rfl⟩ ⟨Nat.le_refl 0, Nat.le_refl 0⟩) (fun H locs I => ?_)
  refine lv_if_ne (tgt := 16) X.1 X.2.1 dX12_law_11 (by decide) (fun c_1 => ?_) (fun c_1 => ?_)
  · skip
    have hE := ite_t hE (b2i_y c_1)
    refine lv_aload_n X.1 X.2.1 dX12_law_16 rfl (lv_at hl 0 rfl) ?_
    refine lv_iload_n X.1 X.2.1 dX12_law_17 rfl (lv_at hl 1 rfl) ?_
    refine p12_29 X I (k := 123) (by decide) rfl lf_X12_64 dX12_law_18 (fun H locs I => ?_)
    refine lv_iconst (v := 1) X.1 X.2.1 dX12_law_21 (by decide) ?_
    have h9 := hE
    exact r_zret X I rfl (e_i (congrArg b2i (pr_fst (a := true) h9)) (pr_snd h9) rfl) dX12_law_22
  · skip
    have hE := ite_f hE (b2i_n c_1)
    refine lv_iconst (v := 0) X.1 X.2.1 dX12_law_14 (by decide) ?_
    have h9 := hE
    exact r_zret X I rfl (e_i (congrArg b2i (pr_fst (a := false) h9)) (pr_snd h9) rfl) dX12_law_15
noncomputable def f12_steps (σ : SI) (x1 : Int32) (x2 : Int32) : Int32 := if (f12_isHouse σ x2) = true then (if (f12_isHouse σ x1) = true then (if x1 = (-1 : Int32) then (f12_stepsNow σ x2) else (f12_stepsTo σ x1 x2)) else (if x1 = (-1 : Int32) then (if x1 = (-1 : Int32) then (f12_stepsNow σ x2) else (f12_stepsTo σ x1 x2)) else (-1 : Int32))) else (-1 : Int32)
noncomputable def o12_steps (σ : SI) (x1 : Int32) (x2 : Int32) : Prop := if (f12_isHouse σ x2) = true then (if (f12_isHouse σ x1) = true then (if x1 = (-1 : Int32) then ((o12_stepsNow σ x2) ∧ True) else ((o12_stepsTo σ x1 x2) ∧ True)) else (if x1 = (-1 : Int32) then (if x1 = (-1 : Int32) then ((o12_stepsNow σ x2) ∧ True) else ((o12_stepsTo σ x1 x2) ∧ True)) else True)) else True
set_option maxHeartbeats 4000000 in
set_option maxRecDepth 100000 in
theorem c12_steps (l : Launch) (G : GT) (σ : SI) (τ : SL) (x1 : Int32) (x2 : Int32) (ho : o12_steps σ x1 x2) : Mc l yX12_steps cX12_steps 3 (some .int) 3 G [.ref (G.2.1 123), .int x1, .int x2] σ τ (Qi G (Ei (f12_steps σ x1 x2) σ τ)) := by
  refine m_start (by decide +kernel) (Nat.le_of_ble_eq_true rfl) rfl (fun p e s m args below meth c ls X I hl => ?_)
  have hl : lv_has ls 3 [(0, .ref (G.2.1 123)), (1, .int x1), (2, .int x2)] := hl
  obtain ⟨E, hE⟩ : ∃ E, E = (f12_steps σ x1 x2) := ⟨_, rfl⟩
  rw [← hE]
  unfold o12_steps at ho
  refine lv_aload_n X.1 X.2.1 dX12_steps_0 rfl (lv_at hl 0 rfl) ?_
  refine lv_iload_n X.1 X.2.1 dX12_steps_1 rfl (lv_at hl 2 rfl) ?_
  refine r_ei I (r_runV X I pk_X12_isHouse (c12_isHouse l G _ _ _) lm_X12_332 (by decide) (cl_12 rfl) rfl rfl rfl hl.1 rfl (Nat.le_of_ble_eq_true rfl) dX12_steps_2 ⟨Nat.le_of_ble_eq_true rfl, Nat.le_of_ble_eq_true rfl⟩ ⟨Nat.le_refl 0, Nat.le_refl 0⟩) (fun H locs I => ?_)
  refine lv_if_eq (tgt := 21) X.1 X.2.1 dX12_steps_5 (by decide) (fun c_1 => ?_) (fun c_1 => ?_)
  · skip
    have hE := ite_f hE (b2i_n c_1)
    have ho := ite_fP ho (b2i_n c_1)
    refine lv_iconst (v := (-1)) X.1 X.2.1 dX12_steps_21 (by decide) ?_
    have h9 := hE
    exact r_iret X I (e_i h9.symm rfl rfl) dX12_steps_22
  · skip
    have hE := ite_t hE (b2i_y c_1)
    have ho := ite_tP ho (b2i_y c_1)
    refine lv_aload_n X.1 X.2.1 dX12_steps_8 rfl (lv_at hl 0 rfl) ?_
    refine lv_iload_n X.1 X.2.1 dX12_steps_9 rfl (lv_at hl 1 rfl) ?_
    refine r_ei I (r_runV X I pk_X12_isHouse (c12_isHouse l G _ _ _) lm_X12_332 (by decide) (cl_12 rfl) rfl rfl rfl hl.1 rfl (Nat.le_of_ble_eq_true rfl) dX12_steps_10 ⟨Nat.le_of_ble_eq_true rfl, Nat.le_of_ble_eq_true rfl⟩ ⟨Nat.le_refl 0, Nat.le_refl 0⟩) (fun H locs I => ?_)
    refine lv_if_ne (tgt := 23) X.1 X.2.1 dX12_steps_13 (by decide) (fun c_2 => ?_) (fun c_2 => ?_)
    · skip
      have hE := ite_t hE (b2i_y c_2)
      have ho := ite_tP ho (b2i_y c_2)
      refine lv_iload_n X.1 X.2.1 dX12_steps_23 rfl (lv_at hl 1 rfl) ?_
      refine lv_iconst (v := (-1)) X.1 X.2.1 dX12_steps_24 (by decide) ?_
      refine lv_icmp_ne (tgt := 36) X.1 X.2.1 dX12_steps_25 (by decide) (fun c_3 => ?_) (fun c_3 => ?_)
      · skip
        have hE := ite_f hE c_3
        have ho := ite_fP ho c_3
        refine lv_aload_n X.1 X.2.1 dX12_steps_36 rfl (lv_at hl 0 rfl) ?_
        refine lv_iload_n X.1 X.2.1 dX12_steps_37 rfl (lv_at hl 1 rfl) ?_
        refine lv_iload_n X.1 X.2.1 dX12_steps_38 rfl (lv_at hl 2 rfl) ?_
        have ho1 := ho.1
        have ho := ho.2
        refine r_ei I (r_runV X I pk_X12_stepsTo (c12_stepsTo l G _ _ _ _ ho1) lm_X12_305 (by decide) (cl_12 rfl) rfl rfl rfl hl.1 rfl (Nat.le_of_ble_eq_true rfl) dX12_steps_39 ⟨Nat.le_of_ble_eq_true rfl, Nat.le_of_ble_eq_true rfl⟩ ⟨Nat.le_refl 0, Nat.le_refl 0⟩) (fun H locs I => ?_)
        have h9 := hE
        exact r_iret X I (e_i h9.symm rfl rfl) dX12_steps_42
      · skip
        have hE := ite_t hE c_3
        have ho := ite_tP ho c_3
        refine lv_aload_n X.1 X.2.1 dX12_steps_28 rfl (lv_at hl 0 rfl) ?_
        refine lv_iload_n X.1 X.2.1 dX12_steps_29 rfl (lv_at hl 2 rfl) ?_
        have ho2 := ho.1
        have ho := ho.2
        refine r_ei I (r_runV X I pk_X12_stepsNow (c12_stepsNow l G _ _ _ ho2) lm_X12_313 (by decide) (cl_12 rfl) rfl rfl rfl hl.1 rfl (Nat.le_of_ble_eq_true rfl) dX12_steps_30 ⟨Nat.le_of_ble_eq_true rfl, Nat.le_of_ble_eq_true rfl⟩ ⟨Nat.le_refl 0, Nat.le_refl 0⟩) (fun H locs I => ?_)
        refine lv_goto (tgt := 42) X.1 X.2.1 dX12_steps_33 (by decide) ?_
        have h9 := hE
        exact r_iret X I (e_i h9.symm rfl rfl) dX12_steps_42
    · skip
      have hE := ite_f hE (b2i_n c_2)
      have ho := ite_fP ho (b2i_n c_2)
      refine lv_iload_n X.1 X.2.1 dX12_steps_16 rfl (lv_at hl 1 rfl) ?_
      refine lv_iconst (v := (-1)) X.1 X.2.1 dX12_steps_17 (by decide) ?_
      refine lv_icmp_eq (tgt := 23) X.1 X.2.1 dX12_steps_18 (by decide) (fun c_4 => ?_) (fun c_4 => ?_)
      · skip
        have hE := ite_t hE c_4
        have ho := ite_tP ho c_4
        refine lv_iload_n X.1 X.2.1 dX12_steps_23 rfl (lv_at hl 1 rfl) ?_
        refine lv_iconst (v := (-1)) X.1 X.2.1 dX12_steps_24 (by decide) ?_
        refine lv_icmp_ne (tgt := 36) X.1 X.2.1 dX12_steps_25 (by decide) (fun c_5 => ?_) (fun c_5 => ?_)
        · skip
          have hE := ite_f hE c_5
          have ho := ite_fP ho c_5
          refine lv_aload_n X.1 X.2.1 dX12_steps_36 rfl (lv_at hl 0 rfl) ?_
          refine lv_iload_n X.1 X.2.1 dX12_steps_37 rfl (lv_at hl 1 rfl) ?_
          refine lv_iload_n X.1 X.2.1 dX12_steps_38 rfl (lv_at hl 2 rfl) ?_
          have ho3 := ho.1
          have ho := ho.2
          refine r_ei I (r_runV X I pk_X12_stepsTo (c12_stepsTo l G _ _ _ _ ho3) lm_X12_305 (by decide) (cl_12 rfl) rfl rfl rfl hl.1 rfl (Nat.le_of_ble_eq_true rfl) dX12_steps_39 ⟨Nat.le_of_ble_eq_true rfl, Nat.le_of_ble_eq_true rfl⟩ ⟨Nat.le_refl 0, Nat.le_refl 0⟩) (fun H locs I => ?_)
          have h9 := hE
          exact r_iret X I (e_i h9.symm rfl rfl) dX12_steps_42
        · skip
          have hE := ite_t hE c_5
          have ho := ite_tP ho c_5
          refine lv_aload_n X.1 X.2.1 dX12_steps_28 rfl (lv_at hl 0 rfl) ?_
          refine lv_iload_n X.1 X.2.1 dX12_steps_29 rfl (lv_at hl 2 rfl) ?_
          have ho4 := ho.1
          have ho := ho.2
          refine r_ei I (r_runV X I pk_X12_stepsNow (c12_stepsNow l G _ _ _ ho4) lm_X12_313 (by decide) (cl_12 rfl) rfl rfl rfl hl.1 rfl (Nat.le_of_ble_eq_true rfl) dX12_steps_30 ⟨Nat.le_of_ble_eq_true rfl, Nat.le_of_ble_eq_true rfl⟩ ⟨Nat.le_refl 0, Nat.le_refl 0⟩) (fun H locs I => ?_)
          refine lv_goto (tgt := 42) X.1 X.2.1 dX12_steps_33 (by decide) ?_
          have h9 := hE
          exact r_iret X I (e_i h9.symm rfl rfl) dX12_steps_42
      · skip
        have hE := ite_f hE c_4
        have ho := ite_fP ho c_4
        refine lv_iconst (v := (-1)) X.1 X.2.1 dX12_steps_21 (by decide) ?_
        have h9 := hE
        exact r_iret X I (e_i h9.symm rfl rfl) dX12_steps_22
noncomputable def f12_stands (σ : SI) (x1 : Int32) : Int32 × SI := if (f12_isHouse σ x1) = true then (let r0 := (f12_standsNow σ x1); r0) else ((-1 : Int32), σ)
noncomputable def o12_stands (σ : SI) (x1 : Int32) : Prop := if (f12_isHouse σ x1) = true then ((o12_standsNow σ x1) ∧ (let r0 := (f12_standsNow σ x1); True)) else True
theorem w_f12_stands (σ : SI) (x1 : Int32) (a : Nat) (h0 : a ≠ 132) (h1 : a ≠ 133) : (f12_stands σ x1).2 a = σ a := by
  refine fp_to2 ?_
  unfold f12_stands
  exact (fr_ite2 (w_f12_standsNow _ _ a h0 h1) (fr_mk21 rfl))
set_option maxHeartbeats 4000000 in
set_option maxRecDepth 100000 in
theorem c12_stands (l : Launch) (G : GT) (σ : SI) (τ : SL) (x1 : Int32) (ho : o12_stands σ x1) : Mc l yX12_stands cX12_stands 2 (some .int) 8 G [.ref (G.2.1 123), .int x1] σ τ (Qi G (Ei (f12_stands σ x1).1 (f12_stands σ x1).2 τ)) := by
  refine m_start (by decide +kernel) (Nat.le_of_ble_eq_true rfl) rfl (fun p e s m args below meth c ls X I hl => ?_)
  have hl : lv_has ls 2 [(0, .ref (G.2.1 123)), (1, .int x1)] := hl
  obtain ⟨E, hE⟩ : ∃ E, E = (f12_stands σ x1) := ⟨_, rfl⟩
  rw [← hE]
  unfold o12_stands at ho
  refine lv_aload_n X.1 X.2.1 dX12_stands_0 rfl (lv_at hl 0 rfl) ?_
  refine lv_iload_n X.1 X.2.1 dX12_stands_1 rfl (lv_at hl 1 rfl) ?_
  refine r_ei I (r_runV X I pk_X12_isHouse (c12_isHouse l G _ _ _) lm_X12_332 (by decide) (cl_12 rfl) rfl rfl rfl hl.1 rfl (Nat.le_of_ble_eq_true rfl) dX12_stands_2 ⟨Nat.le_of_ble_eq_true rfl, Nat.le_of_ble_eq_true rfl⟩ ⟨Nat.le_refl 0, Nat.le_refl 0⟩) (fun H locs I => ?_)
  refine lv_if_eq (tgt := 16) X.1 X.2.1 dX12_stands_5 (by decide) (fun c_1 => ?_) (fun c_1 => ?_)
  · skip
    have hE := ite_f hE (b2i_n c_1)
    have ho := ite_fP ho (b2i_n c_1)
    refine lv_iconst (v := (-1)) X.1 X.2.1 dX12_stands_16 (by decide) ?_
    have h9 := hE
    exact r_iret X I (e_i (pr_fst h9) (pr_snd h9) rfl) dX12_stands_17
  · skip
    have hE := ite_t hE (b2i_y c_1)
    have ho := ite_tP ho (b2i_y c_1)
    refine lv_aload_n X.1 X.2.1 dX12_stands_8 rfl (lv_at hl 0 rfl) ?_
    refine lv_iload_n X.1 X.2.1 dX12_stands_9 rfl (lv_at hl 1 rfl) ?_
    have ho1 := ho.1
    have ho := ho.2
    refine r_ei I (r_runV X I pk_X12_standsNow (c12_standsNow l G _ _ _ ho1) lm_X12_326 (by decide) (cl_12 rfl) rfl rfl rfl hl.1 rfl (Nat.le_of_ble_eq_true rfl) dX12_stands_10 ⟨Nat.le_of_ble_eq_true rfl, Nat.le_of_ble_eq_true rfl⟩ ⟨Nat.le_refl 0, Nat.le_refl 0⟩) (fun H locs I => ?_)
    refine lv_goto (tgt := 17) X.1 X.2.1 dX12_stands_13 (by decide) ?_
    have h9 := hE
    exact r_iret X I (e_i (congrArg Prod.fst h9).symm (congrArg Prod.snd h9).symm rfl) dX12_stands_17
noncomputable def f12_keep_c54 : Nat → Int32 → SI → SI
  | 0, _, σ => σ
  | fu + 1, v1, σ => if (255 : Int32) ≤ v1 then (let s0 := sp σ 123 32 ((σ 123 32) + (1 : Int32)); s0) else (let s1 := sp σ 142 (Int32.toNatClampNeg (((255 : Int32) * (σ 123 32)) + v1)) (σ 140 (Int32.toNatClampNeg v1)); (f12_keep_c54 fu (v1 + 1) s1))
noncomputable def o12_keep_c54 : Nat → Int32 → SI → Prop
  | 0, _, _ => True
  | fu + 1, v1, σ => if (255 : Int32) ≤ v1 then (let s0 := sp σ 123 32 ((σ 123 32) + (1 : Int32)); True) else ((vp_in v1 255) ∧ ((vp_in (((255 : Int32) * (σ 123 32)) + v1) 10200) ∧ (let s1 := sp σ 142 (Int32.toNatClampNeg (((255 : Int32) * (σ 123 32)) + v1)) (σ 140 (Int32.toNatClampNeg v1)); (o12_keep_c54 fu (v1 + 1) s1))))
noncomputable def f12_keep_c13 : Nat → Int32 → SI → SI
  | 0, _, σ => σ
  | fu + 1, v1, σ => if (10200 : Int32) ≤ v1 then (let s2 := sp σ 123 32 ((σ 123 32) - (1 : Int32)); (f12_keep_c54 (fu1 ((Int32.toInt (255 : Int32) - Int32.toInt (0 : Int32)).toNat)) (0 : Int32) s2)) else (let s3 := sp σ 142 (Int32.toNatClampNeg (v1 - (255 : Int32))) (σ 142 (Int32.toNatClampNeg v1)); (f12_keep_c13 fu (v1 + 1) s3))
noncomputable def o12_keep_c13 : Nat → Int32 → SI → Prop
  | 0, _, _ => True
  | fu + 1, v1, σ => if (10200 : Int32) ≤ v1 then (let s2 := sp σ 123 32 ((σ 123 32) - (1 : Int32)); (o12_keep_c54 (fu1 ((Int32.toInt (255 : Int32) - Int32.toInt (0 : Int32)).toNat)) (0 : Int32) s2)) else ((vp_in v1 10200) ∧ ((vp_in (v1 - (255 : Int32)) 10200) ∧ (let s3 := sp σ 142 (Int32.toNatClampNeg (v1 - (255 : Int32))) (σ 142 (Int32.toNatClampNeg v1)); (o12_keep_c13 fu (v1 + 1) s3))))
noncomputable def f12_keep (σ : SI) : SI := if (σ 123 32) = (40 : Int32) then (f12_keep_c13 (fu1 ((Int32.toInt (10200 : Int32) - Int32.toInt (255 : Int32)).toNat)) (255 : Int32) σ) else (f12_keep_c54 (fu1 ((Int32.toInt (255 : Int32) - Int32.toInt (0 : Int32)).toNat)) (0 : Int32) σ)
noncomputable def o12_keep (σ : SI) : Prop := if (σ 123 32) = (40 : Int32) then (o12_keep_c13 (fu1 ((Int32.toInt (10200 : Int32) - Int32.toInt (255 : Int32)).toNat)) (255 : Int32) σ) else (o12_keep_c54 (fu1 ((Int32.toInt (255 : Int32) - Int32.toInt (0 : Int32)).toNat)) (0 : Int32) σ)
theorem w_f12_keep_c54 (a : Nat) (h0 : a ≠ 123) (h1 : a ≠ 142) : ∀ (fu : Nat) (v1 : Int32) (σ : SI), (f12_keep_c54 fu v1 σ) a = σ a := by
  intro fu
  induction fu with
  | zero => intro v1 σ; exact rfl
  | succ fu ih =>
    intro v1 σ
    unfold f12_keep_c54
    exact (fr_ite (sp_n h0) ((ih _ _).trans (sp_n h1)))
theorem w_f12_keep_c13 (a : Nat) (h0 : a ≠ 123) (h1 : a ≠ 142) : ∀ (fu : Nat) (v1 : Int32) (σ : SI), (f12_keep_c13 fu v1 σ) a = σ a := by
  intro fu
  induction fu with
  | zero => intro v1 σ; exact rfl
  | succ fu ih =>
    intro v1 σ
    unfold f12_keep_c13
    exact (fr_ite ((w_f12_keep_c54 a h0 h1 _ _ _).trans (sp_n h0)) ((ih _ _).trans (sp_n h1)))
theorem w_f12_keep (σ : SI) (a : Nat) (h0 : a ≠ 123) (h1 : a ≠ 142) : (f12_keep σ) a = σ a := by
  unfold f12_keep
  exact (fr_ite (w_f12_keep_c13 a h0 h1 _ _ _) (w_f12_keep_c54 a h0 h1 _ _ _))
set_option maxHeartbeats 4000000 in
set_option maxRecDepth 100000 in
theorem c12_keep_c54 {l : Launch} {p : Program} {e : Env} {s : State} {m : MethodId} {args : Array Value} {below : List Frame} {meth : Method} {c : Code} {G : GT} (X : CX p s m args meth c cX12_keep RX12 2 none G) {E : SI} (τ : SL) : ∀ (fu : Nat) (v1 : Int32) (σ : SI) (H : Heap) (locs : List Loc) (ls : Array Slot), IX G s H locs σ τ → lv_has ls 2 [(0, .ref (G.2.1 123)), (1, .int v1)] → (o12_keep_c54 fu v1 σ) → (Int32.toInt (255 : Int32) - Int32.toInt v1).toNat < fu → E = (f12_keep_c54 fu v1 σ) → W p l e (rmN 0) s m args below meth c H locs 0 0 (MQ below ((Qv G (Ev E τ)) s.heap.size) args s 0 0 (AW G s.heap.size)) (F0 m 54 ls []) := by
  intro fu
  induction fu with
  | zero =>
    intro v1 σ H locs ls I hl  ho hm hE
    exact absurd hm (Nat.not_lt_zero _)
  | succ fu ih =>
    intro v1 σ H locs ls I hl  ho hm hE
    unfold o12_keep_c54 at ho
    refine lv_iload_n X.1 X.2.1 dX12_keep_54 rfl (lv_at hl 1 rfl) ?_
    refine lv_sipush (v := 255) X.1 X.2.1 dX12_keep_55 (by decide) ?_
    refine lv_icmp_ge (tgt := 88) X.1 X.2.1 dX12_keep_58 (by decide) (fun c_2 => ?_) (fun c_2 => ?_)
    · skip
      have hE := ite_t hE c_2
      have ho := ite_tP ho c_2
      refine lv_aload_n X.1 X.2.1 dX12_keep_88 rfl (lv_at hl 0 rfl) ?_
      refine lv_dup X.1 X.2.1 dX12_keep_89 rfl ?_
      refine g12_32 X I (k := 123) (by decide) rfl lf_X12_279 dX12_keep_90 ?_
      refine lv_iconst (v := 1) X.1 X.2.1 dX12_keep_93 (by decide) ?_
      refine lv_iadd X.1 X.2.1 dX12_keep_94 ?_
      refine p12_32 X I (k := 123) (by decide) rfl lf_X12_279 dX12_keep_95 (fun H locs I => ?_)
      have h9 := hE
      exact r_vret X I (e_v h9.symm rfl) dX12_keep_98
    · skip
      have hE := ite_f hE c_2
      have ho := ite_fP ho c_2
      refine lv_aload_n X.1 X.2.1 dX12_keep_61 rfl (lv_at hl 0 rfl) ?_
      refine g12_31 X I (k := 123) (by decide) rfl lf_X12_71 dX12_keep_62 ?_
      refine lv_sipush (v := 255) X.1 X.2.1 dX12_keep_65 (by decide) ?_
      refine lv_aload_n X.1 X.2.1 dX12_keep_68 rfl (lv_at hl 0 rfl) ?_
      refine g12_32 X I (k := 123) (by decide) rfl lf_X12_279 dX12_keep_69 ?_
      refine lv_imul X.1 X.2.1 dX12_keep_72 ?_
      refine lv_iload_n X.1 X.2.1 dX12_keep_73 rfl (lv_at hl 1 rfl) ?_
      refine lv_iadd X.1 X.2.1 dX12_keep_74 ?_
      refine lv_aload_n X.1 X.2.1 dX12_keep_75 rfl (lv_at hl 0 rfl) ?_
      refine g12_27 X I (k := 123) (by decide) rfl lf_X12_58 dX12_keep_76 ?_
      refine lv_iload_n X.1 X.2.1 dX12_keep_79 rfl (lv_at hl 1 rfl) ?_
      have ho1 := ho.1
      have ho := ho.2
      refine r_ald X I (k := 140) (n := 255) (by decide) rfl ho1 dX12_keep_80 ?_
      have ho2 := ho.1
      have ho := ho.2
      refine r_ast X I (k := 142) (n := 10200) (by decide) rfl ho2 dX12_keep_81 (fun H locs I => ?_)
      refine lv_iinc (v := _ + 1) (lv' := [(1, .int _), (0, .ref _)]) X.1 X.2.1 dX12_keep_82 hl (k := 1) rfl rfl (by decide) rfl (fun ls hl => ?_)
      refine lv_goto (tgt := 54) X.1 X.2.1 dX12_keep_85 (by decide) ?_
      exact ih _ _ _ _ _ I (lv_sub hl [1, 0] rfl) ho (Nat.lt_of_lt_of_le (up_dec c_2) (Nat.le_of_lt_succ hm)) (hE.trans (rfl))
set_option maxHeartbeats 4000000 in
set_option maxRecDepth 100000 in
theorem c12_keep_c13 {l : Launch} {p : Program} {e : Env} {s : State} {m : MethodId} {args : Array Value} {below : List Frame} {meth : Method} {c : Code} {G : GT} (X : CX p s m args meth c cX12_keep RX12 2 none G) {E : SI} (τ : SL) : ∀ (fu : Nat) (v1 : Int32) (σ : SI) (H : Heap) (locs : List Loc) (ls : Array Slot), IX G s H locs σ τ → lv_has ls 2 [(0, .ref (G.2.1 123)), (1, .int v1)] → (o12_keep_c13 fu v1 σ) → (Int32.toInt (10200 : Int32) - Int32.toInt v1).toNat < fu → E = (f12_keep_c13 fu v1 σ) → W p l e (rmN 0) s m args below meth c H locs 0 0 (MQ below ((Qv G (Ev E τ)) s.heap.size) args s 0 0 (AW G s.heap.size)) (F0 m 13 ls []) := by
  intro fu
  induction fu with
  | zero =>
    intro v1 σ H locs ls I hl  ho hm hE
    exact absurd hm (Nat.not_lt_zero _)
  | succ fu ih =>
    intro v1 σ H locs ls I hl  ho hm hE
    unfold o12_keep_c13 at ho
    refine lv_iload_n X.1 X.2.1 dX12_keep_13 rfl (lv_at hl 1 rfl) ?_
    refine lv_sipush (v := 10200) X.1 X.2.1 dX12_keep_14 (by decide) ?_
    refine lv_icmp_ge (tgt := 42) X.1 X.2.1 dX12_keep_17 (by decide) (fun c_3 => ?_) (fun c_3 => ?_)
    · skip
      have hE := ite_t hE c_3
      have ho := ite_tP ho c_3
      refine lv_aload_n X.1 X.2.1 dX12_keep_42 rfl (lv_at hl 0 rfl) ?_
      refine lv_dup X.1 X.2.1 dX12_keep_43 rfl ?_
      refine g12_32 X I (k := 123) (by decide) rfl lf_X12_279 dX12_keep_44 ?_
      refine lv_iconst (v := 1) X.1 X.2.1 dX12_keep_47 (by decide) ?_
      refine lv_isub X.1 X.2.1 dX12_keep_48 ?_
      refine p12_32 X I (k := 123) (by decide) rfl lf_X12_279 dX12_keep_49 (fun H locs I => ?_)
      refine lv_iconst (v := 0) X.1 X.2.1 dX12_keep_52 (by decide) ?_
      refine lv_istore_n (lv' := [(1, .int _), (0, .ref _)]) X.1 X.2.1 dX12_keep_53 rfl hl (by decide) rfl (fun ls hl => ?_)
      exact c12_keep_c54 X _  _ _ _ _ _ _ I (lv_sub hl [1, 0] rfl) ho (fu1_lt _) (hE.trans (rfl))
    · skip
      have hE := ite_f hE c_3
      have ho := ite_fP ho c_3
      refine lv_aload_n X.1 X.2.1 dX12_keep_20 rfl (lv_at hl 0 rfl) ?_
      refine g12_31 X I (k := 123) (by decide) rfl lf_X12_71 dX12_keep_21 ?_
      refine lv_iload_n X.1 X.2.1 dX12_keep_24 rfl (lv_at hl 1 rfl) ?_
      refine lv_sipush (v := 255) X.1 X.2.1 dX12_keep_25 (by decide) ?_
      refine lv_isub X.1 X.2.1 dX12_keep_28 ?_
      refine lv_aload_n X.1 X.2.1 dX12_keep_29 rfl (lv_at hl 0 rfl) ?_
      refine g12_31 X I (k := 123) (by decide) rfl lf_X12_71 dX12_keep_30 ?_
      refine lv_iload_n X.1 X.2.1 dX12_keep_33 rfl (lv_at hl 1 rfl) ?_
      have ho3 := ho.1
      have ho := ho.2
      refine r_ald X I (k := 142) (n := 10200) (by decide) rfl ho3 dX12_keep_34 ?_
      have ho4 := ho.1
      have ho := ho.2
      refine r_ast X I (k := 142) (n := 10200) (by decide) rfl ho4 dX12_keep_35 (fun H locs I => ?_)
      refine lv_iinc (v := _ + 1) (lv' := [(1, .int _), (0, .ref _)]) X.1 X.2.1 dX12_keep_36 hl (k := 1) rfl rfl (by decide) rfl (fun ls hl => ?_)
      refine lv_goto (tgt := 13) X.1 X.2.1 dX12_keep_39 (by decide) ?_
      exact ih _ _ _ _ _ I (lv_sub hl [1, 0] rfl) ho (Nat.lt_of_lt_of_le (up_dec c_3) (Nat.le_of_lt_succ hm)) (hE.trans (rfl))
set_option maxHeartbeats 4000000 in
set_option maxRecDepth 100000 in
theorem c12_keep (l : Launch) (G : GT) (σ : SI) (τ : SL) (ho : o12_keep σ) : Mc l yX12_keep cX12_keep 2 none 0 G [.ref (G.2.1 123)] σ τ (Qv G (Ev (f12_keep σ) τ)) := by
  refine m_start (by decide +kernel) (Nat.le_of_ble_eq_true rfl) rfl (fun p e s m args below meth c ls X I hl => ?_)
  have hl : lv_has ls 2 [(0, .ref (G.2.1 123))] := hl
  obtain ⟨E, hE⟩ : ∃ E, E = (f12_keep σ) := ⟨_, rfl⟩
  rw [← hE]
  unfold o12_keep at ho
  refine lv_aload_n X.1 X.2.1 dX12_keep_0 rfl (lv_at hl 0 rfl) ?_
  refine g12_32 X I (k := 123) (by decide) rfl lf_X12_279 dX12_keep_1 ?_
  refine lv_bipush (v := 40) X.1 X.2.1 dX12_keep_4 (by decide) ?_
  refine lv_icmp_ne (tgt := 52) X.1 X.2.1 dX12_keep_6 (by decide) (fun c_1 => ?_) (fun c_1 => ?_)
  · skip
    have hE := ite_f hE c_1
    have ho := ite_fP ho c_1
    refine lv_iconst (v := 0) X.1 X.2.1 dX12_keep_52 (by decide) ?_
    refine lv_istore_n (lv' := [(1, .int _), (0, .ref _)]) X.1 X.2.1 dX12_keep_53 rfl hl (by decide) rfl (fun ls hl => ?_)
    exact c12_keep_c54 X _  _ _ _ _ _ _ I (lv_sub hl [1, 0] rfl) ho (fu1_lt _) (hE.trans (rfl))
  · skip
    have hE := ite_t hE c_1
    have ho := ite_tP ho c_1
    refine lv_sipush (v := 255) X.1 X.2.1 dX12_keep_9 (by decide) ?_
    refine lv_istore_n (lv' := [(1, .int _), (0, .ref _)]) X.1 X.2.1 dX12_keep_12 rfl hl (by decide) rfl (fun ls hl => ?_)
    exact c12_keep_c13 X _  _ _ _ _ _ _ I (lv_sub hl [1, 0] rfl) ho (fu1_lt _) (hE.trans (rfl))
