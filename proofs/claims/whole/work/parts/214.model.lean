noncomputable def f12_standsNow (σ : SI) (x1 : Int32) : Int32 × SI := let r0 := (f12_standsIf σ x1 (σ 140 (Int32.toNatClampNeg ((0 : Int32) + x1))) (0 : Int32)); r0
noncomputable def o12_standsNow (σ : SI) (x1 : Int32) : Prop := (vp_in ((0 : Int32) + x1) 255) ∧ ((o12_standsIf σ x1 (σ 140 (Int32.toNatClampNeg ((0 : Int32) + x1))) (0 : Int32)) ∧ (let r0 := (f12_standsIf σ x1 (σ 140 (Int32.toNatClampNeg ((0 : Int32) + x1))) (0 : Int32)); True))
theorem w_f12_standsNow (σ : SI) (x1 : Int32) (a : Nat) (h0 : a ≠ 132) (h1 : a ≠ 133) : (f12_standsNow σ x1).2 a = σ a := by
  refine fp_to2 ?_
  unfold f12_standsNow
  exact (w_f12_standsIf _ _ _ _ a h0 h1)
set_option maxHeartbeats 4000000 in
set_option maxRecDepth 100000 in
theorem c12_standsNow (l : Launch) (G : GT) (σ : SI) (τ : SL) (x1 : Int32) (ho : o12_standsNow σ x1) : Mc l yX12_standsNow cX12_standsNow 2 (some .int) 7 G [.ref (G.2.1 123), .int x1] σ τ (Qi G (Ei (f12_standsNow σ x1).1 (f12_standsNow σ x1).2 τ)) := by
  refine m_start (by decide +kernel) (Nat.le_of_ble_eq_true rfl) rfl (fun p e s m args below meth c ls X I hl => ?_)
  have hl : lv_has ls 2 [(0, .ref (G.2.1 123)), (1, .int x1)] := hl
  obtain ⟨E, hE⟩ : ∃ E, E = (f12_standsNow σ x1) := ⟨_, rfl⟩
  rw [← hE]
  unfold o12_standsNow at ho
  refine lv_aload_n X.1 X.2.1 dX12_standsNow_0 rfl (lv_at hl 0 rfl) ?_
  refine lv_iload_n X.1 X.2.1 dX12_standsNow_1 rfl (lv_at hl 1 rfl) ?_
  refine lv_aload_n X.1 X.2.1 dX12_standsNow_2 rfl (lv_at hl 0 rfl) ?_
  refine g12_27 X I (k := 123) (by decide) rfl lf_X12_58 dX12_standsNow_3 ?_
  refine lv_iconst (v := 0) X.1 X.2.1 dX12_standsNow_6 (by decide) ?_
  refine lv_iload_n X.1 X.2.1 dX12_standsNow_7 rfl (lv_at hl 1 rfl) ?_
  refine lv_iadd X.1 X.2.1 dX12_standsNow_8 ?_
  have ho1 := ho.1
  have ho := ho.2
  refine r_ald X I (k := 140) (n := 255) (by decide) rfl ho1 dX12_standsNow_9 ?_
  refine lv_iconst (v := 0) X.1 X.2.1 dX12_standsNow_10 (by decide) ?_
  have ho2 := ho.1
  have ho := ho.2
  refine r_ei I (r_runV X I pk_X12_standsIf (c12_standsIf l G _ _ _ _ _ ho2) lm_X12_323 (by decide) (cl_12 rfl) rfl rfl rfl hl.1 rfl (Nat.le_of_ble_eq_true rfl) dX12_standsNow_11 ⟨Nat.le_of_ble_eq_true rfl, Nat.le_of_ble_eq_true rfl⟩ ⟨Nat.le_refl 0, Nat.le_refl 0⟩) (fun H locs I => ?_)
  have h9 := hE
  exact r_iret X I (e_i (congrArg Prod.fst h9).symm (congrArg Prod.snd h9).symm rfl) dX12_standsNow_14
noncomputable def f12_endOf (σ : SI) (x1 : Int32) : Int32 × SI := let r0 := (f12_standsNow σ x1); ((((σ 140 8) + (f12_stepsNow σ x1)) + r0.1), r0.2)
noncomputable def o12_endOf (σ : SI) (x1 : Int32) : Prop := (o12_stepsNow σ x1) ∧ ((o12_standsNow σ x1) ∧ (let r0 := (f12_standsNow σ x1); True))
theorem w_f12_endOf (σ : SI) (x1 : Int32) (a : Nat) (h0 : a ≠ 132) (h1 : a ≠ 133) : (f12_endOf σ x1).2 a = σ a := by
  refine fp_to2 ?_
  unfold f12_endOf
  exact (fr_mk21 (w_f12_standsNow _ _ a h0 h1))
set_option maxHeartbeats 4000000 in
set_option maxRecDepth 100000 in
theorem c12_endOf (l : Launch) (G : GT) (σ : SI) (τ : SL) (x1 : Int32) (ho : o12_endOf σ x1) : Mc l yX12_endOf cX12_endOf 2 (some .int) 8 G [.ref (G.2.1 123), .int x1] σ τ (Qi G (Ei (f12_endOf σ x1).1 (f12_endOf σ x1).2 τ)) := by
  refine m_start (by decide +kernel) (Nat.le_of_ble_eq_true rfl) rfl (fun p e s m args below meth c ls X I hl => ?_)
  have hl : lv_has ls 2 [(0, .ref (G.2.1 123)), (1, .int x1)] := hl
  obtain ⟨E, hE⟩ : ∃ E, E = (f12_endOf σ x1) := ⟨_, rfl⟩
  rw [← hE]
  unfold o12_endOf at ho
  refine lv_aload_n X.1 X.2.1 dX12_endOf_0 rfl (lv_at hl 0 rfl) ?_
  refine g12_27 X I (k := 123) (by decide) rfl lf_X12_58 dX12_endOf_1 ?_
  refine lv_bipush (v := 8) X.1 X.2.1 dX12_endOf_4 (by decide) ?_
  refine r_ald X I (k := 140) (n := 255) (by decide) rfl (by unfold vp_in; decide) dX12_endOf_6 ?_
  refine lv_aload_n X.1 X.2.1 dX12_endOf_7 rfl (lv_at hl 0 rfl) ?_
  refine lv_iload_n X.1 X.2.1 dX12_endOf_8 rfl (lv_at hl 1 rfl) ?_
  have ho1 := ho.1
  have ho := ho.2
  refine r_ei I (r_runV X I pk_X12_stepsNow (c12_stepsNow l G _ _ _ ho1) lm_X12_313 (by decide) (cl_12 rfl) rfl rfl rfl hl.1 rfl (Nat.le_of_ble_eq_true rfl) dX12_endOf_9 ⟨Nat.le_of_ble_eq_true rfl, Nat.le_of_ble_eq_true rfl⟩ ⟨Nat.le_refl 0, Nat.le_refl 0⟩) (fun H locs I => ?_)
  refine lv_iadd X.1 X.2.1 dX12_endOf_12 ?_
  refine lv_aload_n X.1 X.2.1 dX12_endOf_13 rfl (lv_at hl 0 rfl) ?_
  refine lv_iload_n X.1 X.2.1 dX12_endOf_14 rfl (lv_at hl 1 rfl) ?_
  have ho2 := ho.1
  have ho := ho.2
  refine r_ei I (r_runV X I pk_X12_standsNow (c12_standsNow l G _ _ _ ho2) lm_X12_326 (by decide) (cl_12 rfl) rfl rfl rfl hl.1 rfl (Nat.le_of_ble_eq_true rfl) dX12_endOf_15 ⟨Nat.le_of_ble_eq_true rfl, Nat.le_of_ble_eq_true rfl⟩ ⟨Nat.le_refl 0, Nat.le_refl 0⟩) (fun H locs I => ?_)
  refine lv_iadd X.1 X.2.1 dX12_endOf_18 ?_
  have h9 := hE
  exact r_iret X I (e_i (pr_fst h9) (pr_snd h9) rfl) dX12_endOf_19
noncomputable def f12_rule (σ : SI) (x1 : Int32) : Int32 := if (σ 123 25) = (0 : Int32) then (-1 : Int32) else (if (f12_in x1 (0 : Int32) (3 : Int32)) = true then (if x1 = (1 : Int32) then (σ 140 7) else (if x1 = (3 : Int32) then (f12_allStrength σ) else (σ 137 (Int32.toNatClampNeg x1)))) else (-1 : Int32))
noncomputable def o12_rule (σ : SI) (x1 : Int32) : Prop := if (σ 123 25) = (0 : Int32) then True else (if (f12_in x1 (0 : Int32) (3 : Int32)) = true then (if x1 = (1 : Int32) then True else (if x1 = (3 : Int32) then ((o12_allStrength σ) ∧ True) else ((vp_in x1 3) ∧ True))) else True)
set_option maxHeartbeats 4000000 in
set_option maxRecDepth 100000 in
theorem c12_rule (l : Launch) (G : GT) (σ : SI) (τ : SL) (x1 : Int32) (ho : o12_rule σ x1) : Mc l yX12_rule cX12_rule 2 (some .int) 1 G [.ref (G.2.1 123), .int x1] σ τ (Qi G (Ei (f12_rule σ x1) σ τ)) := by
  refine m_start (by decide +kernel) (Nat.le_of_ble_eq_true rfl) rfl (fun p e s m args below meth c ls X I hl => ?_)
  have hl : lv_has ls 2 [(0, .ref (G.2.1 123)), (1, .int x1)] := hl
  obtain ⟨E, hE⟩ : ∃ E, E = (f12_rule σ x1) := ⟨_, rfl⟩
  rw [← hE]
  unfold o12_rule at ho
  refine lv_aload_n X.1 X.2.1 dX12_rule_0 rfl (lv_at hl 0 rfl) ?_
  refine g12_25 X I (k := 123) (by decide) rfl lf_X12_264 dX12_rule_1 ?_
  refine lv_if_eq (tgt := 16) X.1 X.2.1 dX12_rule_4 (by decide) (fun c_1 => ?_) (fun c_1 => ?_)
  · skip
    have hE := ite_t hE c_1
    have ho := ite_tP ho c_1
    refine lv_iconst (v := (-1)) X.1 X.2.1 dX12_rule_16 (by decide) ?_
    refine lv_goto (tgt := 53) X.1 X.2.1 dX12_rule_17 (by decide) ?_
    have h9 := hE
    exact r_iret X I (e_i h9.symm rfl rfl) dX12_rule_53
  · skip
    have hE := ite_f hE c_1
    have ho := ite_fP ho c_1
    refine lv_iload_n X.1 X.2.1 dX12_rule_7 rfl (lv_at hl 1 rfl) ?_
    refine lv_iconst (v := 0) X.1 X.2.1 dX12_rule_8 (by decide) ?_
    refine lv_iconst (v := 3) X.1 X.2.1 dX12_rule_9 (by decide) ?_
    refine r_ei I (r_runS X I pk_X12_in (c12_in l G _ _ _ _ _) lm_X12_220 rfl hl.1 rfl (Nat.le_of_ble_eq_true rfl) dX12_rule_10 ⟨Nat.le_of_ble_eq_true rfl, Nat.le_of_ble_eq_true rfl⟩ ⟨Nat.le_refl 0, Nat.le_refl 0⟩) (fun H locs I => ?_)
    refine lv_if_ne (tgt := 20) X.1 X.2.1 dX12_rule_13 (by decide) (fun c_2 => ?_) (fun c_2 => ?_)
    · skip
      have hE := ite_t hE (b2i_y c_2)
      have ho := ite_tP ho (b2i_y c_2)
      refine lv_iload_n X.1 X.2.1 dX12_rule_20 rfl (lv_at hl 1 rfl) ?_
      refine lv_iconst (v := 1) X.1 X.2.1 dX12_rule_21 (by decide) ?_
      refine lv_icmp_ne (tgt := 35) X.1 X.2.1 dX12_rule_22 (by decide) (fun c_3 => ?_) (fun c_3 => ?_)
      · skip
        have hE := ite_f hE c_3
        have ho := ite_fP ho c_3
        refine lv_iload_n X.1 X.2.1 dX12_rule_35 rfl (lv_at hl 1 rfl) ?_
        refine lv_iconst (v := 3) X.1 X.2.1 dX12_rule_36 (by decide) ?_
        refine lv_icmp_ne (tgt := 47) X.1 X.2.1 dX12_rule_37 (by decide) (fun c_4 => ?_) (fun c_4 => ?_)
        · skip
          have hE := ite_f hE c_4
          have ho := ite_fP ho c_4
          refine lv_aload_n X.1 X.2.1 dX12_rule_47 rfl (lv_at hl 0 rfl) ?_
          refine g12_22 X I (k := 123) (by decide) rfl lf_X12_49 dX12_rule_48 ?_
          refine lv_iload_n X.1 X.2.1 dX12_rule_51 rfl (lv_at hl 1 rfl) ?_
          have ho1 := ho.1
          have ho := ho.2
          refine r_ald X I (k := 137) (n := 3) (by decide) rfl ho1 dX12_rule_52 ?_
          have h9 := hE
          exact r_iret X I (e_i h9.symm rfl rfl) dX12_rule_53
        · skip
          have hE := ite_t hE c_4
          have ho := ite_tP ho c_4
          refine lv_aload_n X.1 X.2.1 dX12_rule_40 rfl (lv_at hl 0 rfl) ?_
          have ho2 := ho.1
          have ho := ho.2
          refine r_ei I (r_runV X I pk_X12_allStrength (c12_allStrength l G _ _ ho2) lm_X12_329 (by decide) (cl_12 rfl) rfl rfl rfl hl.1 rfl (Nat.le_of_ble_eq_true rfl) dX12_rule_41 ⟨Nat.le_of_ble_eq_true rfl, Nat.le_of_ble_eq_true rfl⟩ ⟨Nat.le_refl 0, Nat.le_refl 0⟩) (fun H locs I => ?_)
          refine lv_goto (tgt := 53) X.1 X.2.1 dX12_rule_44 (by decide) ?_
          have h9 := hE
          exact r_iret X I (e_i h9.symm rfl rfl) dX12_rule_53
      · skip
        have hE := ite_t hE c_3
        have ho := ite_tP ho c_3
        refine lv_aload_n X.1 X.2.1 dX12_rule_25 rfl (lv_at hl 0 rfl) ?_
        refine g12_27 X I (k := 123) (by decide) rfl lf_X12_58 dX12_rule_26 ?_
        refine lv_bipush (v := 7) X.1 X.2.1 dX12_rule_29 (by decide) ?_
        refine r_ald X I (k := 140) (n := 255) (by decide) rfl (by unfold vp_in; decide) dX12_rule_31 ?_
        refine lv_goto (tgt := 53) X.1 X.2.1 dX12_rule_32 (by decide) ?_
        have h9 := hE
        exact r_iret X I (e_i h9.symm rfl rfl) dX12_rule_53
    · skip
      have hE := ite_f hE (b2i_n c_2)
      have ho := ite_fP ho (b2i_n c_2)
      refine lv_iconst (v := (-1)) X.1 X.2.1 dX12_rule_16 (by decide) ?_
      refine lv_goto (tgt := 53) X.1 X.2.1 dX12_rule_17 (by decide) ?_
      have h9 := hE
      exact r_iret X I (e_i h9.symm rfl rfl) dX12_rule_53
noncomputable def f12_house (σ : SI) (x1 : Int32) (x2 : Int32) : Int32 × SI := if (f12_isHouse σ x1) = true then (if (f12_in x2 (0 : Int32) (4 : Int32)) = true then (let s2 := sp σ 123 0 (0 : Int32); if (0 : Int32) = (1 : Int32) then ((0 : Int32), s2) else (if x2 = (2 : Int32) then ((σ 140 (Int32.toNatClampNeg ((0 : Int32) + x1))), s2) else (if x2 = (4 : Int32) then ((((σ 140 11) >>> (x1 &&& 31)) &&& (1 : Int32)), s2) else ((f12_of s2 x1 x2), s2)))) else (let s1 := sp σ 123 0 (1 : Int32); if (1 : Int32) = (1 : Int32) then ((0 : Int32), s1) else (if x2 = (2 : Int32) then ((σ 140 (Int32.toNatClampNeg ((0 : Int32) + x1))), s1) else (if x2 = (4 : Int32) then ((((σ 140 11) >>> (x1 &&& 31)) &&& (1 : Int32)), s1) else ((f12_of s1 x1 x2), s1))))) else (let s0 := sp σ 123 0 (1 : Int32); if (1 : Int32) = (1 : Int32) then ((0 : Int32), s0) else (if x2 = (2 : Int32) then ((σ 140 (Int32.toNatClampNeg ((0 : Int32) + x1))), s0) else (if x2 = (4 : Int32) then ((((σ 140 11) >>> (x1 &&& 31)) &&& (1 : Int32)), s0) else ((f12_of s0 x1 x2), s0))))
noncomputable def o12_house (σ : SI) (x1 : Int32) (x2 : Int32) : Prop := if (f12_isHouse σ x1) = true then (if (f12_in x2 (0 : Int32) (4 : Int32)) = true then (let s2 := sp σ 123 0 (0 : Int32); if (0 : Int32) = (1 : Int32) then True else (if x2 = (2 : Int32) then ((vp_in ((0 : Int32) + x1) 255) ∧ True) else (if x2 = (4 : Int32) then True else ((o12_of s2 x1 x2) ∧ True)))) else (let s1 := sp σ 123 0 (1 : Int32); if (1 : Int32) = (1 : Int32) then True else (if x2 = (2 : Int32) then ((vp_in ((0 : Int32) + x1) 255) ∧ True) else (if x2 = (4 : Int32) then True else ((o12_of s1 x1 x2) ∧ True))))) else (let s0 := sp σ 123 0 (1 : Int32); if (1 : Int32) = (1 : Int32) then True else (if x2 = (2 : Int32) then ((vp_in ((0 : Int32) + x1) 255) ∧ True) else (if x2 = (4 : Int32) then True else ((o12_of s0 x1 x2) ∧ True))))
theorem w_f12_house (σ : SI) (x1 : Int32) (x2 : Int32) (a : Nat) (h0 : a ≠ 123) : (f12_house σ x1 x2).2 a = σ a := by
  refine fp_to2 ?_
  unfold f12_house
  exact (fr_ite2 (fr_ite2 (fr_ite2 (fr_mk21 (sp_n h0)) (fr_ite2 (fr_mk21 (sp_n h0)) (fr_ite2 (fr_mk21 (sp_n h0)) (fr_mk21 (sp_n h0))))) (fr_ite2 (fr_mk21 (sp_n h0)) (fr_ite2 (fr_mk21 (sp_n h0)) (fr_ite2 (fr_mk21 (sp_n h0)) (fr_mk21 (sp_n h0)))))) (fr_ite2 (fr_mk21 (sp_n h0)) (fr_ite2 (fr_mk21 (sp_n h0)) (fr_ite2 (fr_mk21 (sp_n h0)) (fr_mk21 (sp_n h0))))))
set_option maxHeartbeats 4000000 in
set_option maxRecDepth 100000 in
theorem c12_house (l : Launch) (G : GT) (σ : SI) (τ : SL) (x1 : Int32) (x2 : Int32) (ho : o12_house σ x1 x2) : Mc l yX12_house cX12_house 3 (some .int) 2 G [.ref (G.2.1 123), .int x1, .int x2] σ τ (Qi G (Ei (f12_house σ x1 x2).1 (f12_house σ x1 x2).2 τ)) := by
  refine m_start (by decide +kernel) (Nat.le_of_ble_eq_true rfl) rfl (fun p e s m args below meth c ls X I hl => ?_)
  have hl : lv_has ls 3 [(0, .ref (G.2.1 123)), (1, .int x1), (2, .int x2)] := hl
  obtain ⟨E, hE⟩ : ∃ E, E = (f12_house σ x1 x2) := ⟨_, rfl⟩
  rw [← hE]
  unfold o12_house at ho
  refine lv_aload_n X.1 X.2.1 dX12_house_0 rfl (lv_at hl 0 rfl) ?_
  refine lv_aload_n X.1 X.2.1 dX12_house_1 rfl (lv_at hl 0 rfl) ?_
  refine lv_iload_n X.1 X.2.1 dX12_house_2 rfl (lv_at hl 1 rfl) ?_
  refine r_ei I (r_runV X I pk_X12_isHouse (c12_isHouse l G _ _ _) lm_X12_332 (by decide) (cl_12 rfl) rfl rfl rfl hl.1 rfl (Nat.le_of_ble_eq_true rfl) dX12_house_3 ⟨Nat.le_of_ble_eq_true rfl, Nat.le_of_ble_eq_true rfl⟩ ⟨Nat.le_refl 0, Nat.le_refl 0⟩) (fun H locs I => ?_)
  refine lv_if_eq (tgt := 22) X.1 X.2.1 dX12_house_6 (by decide) (fun c_1 => ?_) (fun c_1 => ?_)
  · skip
    have hE := ite_f hE (b2i_n c_1)
    have ho := ite_fP ho (b2i_n c_1)
    refine lv_iconst (v := 1) X.1 X.2.1 dX12_house_22 (by decide) ?_
    refine p12_0 X I (k := 123) (by decide) rfl lf_X12_105 dX12_house_23 (fun H locs I => ?_)
    refine lv_aload_n X.1 X.2.1 dX12_house_26 rfl (lv_at hl 0 rfl) ?_
    refine g12_0 X I (k := 123) (by decide) rfl lf_X12_105 dX12_house_27 ?_
    refine lv_iconst (v := 1) X.1 X.2.1 dX12_house_30 (by decide) ?_
    refine lv_icmp_ne (tgt := 36) X.1 X.2.1 dX12_house_31 (by decide) (fun c_2 => ?_) (fun c_2 => ?_)
    · skip
      have hE := ite_f hE c_2
      have ho := ite_fP ho c_2
      refine lv_iload_n X.1 X.2.1 dX12_house_36 rfl (lv_at hl 2 rfl) ?_
      refine lv_iconst (v := 2) X.1 X.2.1 dX12_house_37 (by decide) ?_
      refine lv_icmp_ne (tgt := 52) X.1 X.2.1 dX12_house_38 (by decide) (fun c_3 => ?_) (fun c_3 => ?_)
      · skip
        have hE := ite_f hE c_3
        have ho := ite_fP ho c_3
        refine lv_iload_n X.1 X.2.1 dX12_house_52 rfl (lv_at hl 2 rfl) ?_
        refine lv_iconst (v := 4) X.1 X.2.1 dX12_house_53 (by decide) ?_
        refine lv_icmp_ne (tgt := 71) X.1 X.2.1 dX12_house_54 (by decide) (fun c_4 => ?_) (fun c_4 => ?_)
        · skip
          have hE := ite_f hE c_4
          have ho := ite_fP ho c_4
          refine lv_aload_n X.1 X.2.1 dX12_house_71 rfl (lv_at hl 0 rfl) ?_
          refine lv_iload_n X.1 X.2.1 dX12_house_72 rfl (lv_at hl 1 rfl) ?_
          refine lv_iload_n X.1 X.2.1 dX12_house_73 rfl (lv_at hl 2 rfl) ?_
          have ho1 := ho.1
          have ho := ho.2
          refine r_ei I (r_runV X I pk_X12_of (c12_of l G _ _ _ _ ho1) lm_X12_270 (by decide) (cl_12 rfl) rfl rfl rfl hl.1 rfl (Nat.le_of_ble_eq_true rfl) dX12_house_74 ⟨Nat.le_of_ble_eq_true rfl, Nat.le_of_ble_eq_true rfl⟩ ⟨Nat.le_refl 0, Nat.le_refl 0⟩) (fun H locs I => ?_)
          have h9 := hE
          exact r_iret X I (e_i (pr_fst h9) (pr_snd h9) rfl) dX12_house_77
        · skip
          have hE := ite_t hE c_4
          have ho := ite_tP ho c_4
          refine lv_aload_n X.1 X.2.1 dX12_house_57 rfl (lv_at hl 0 rfl) ?_
          refine g12_27 X I (k := 123) (by decide) rfl lf_X12_58 dX12_house_58 ?_
          refine lv_bipush (v := 11) X.1 X.2.1 dX12_house_61 (by decide) ?_
          refine r_ald X I (k := 140) (n := 255) (by decide) rfl (by unfold vp_in; decide) dX12_house_63 ?_
          refine lv_iload_n X.1 X.2.1 dX12_house_64 rfl (lv_at hl 1 rfl) ?_
          refine lv_ishr X.1 X.2.1 dX12_house_65 ?_
          refine lv_iconst (v := 1) X.1 X.2.1 dX12_house_66 (by decide) ?_
          refine lv_iand X.1 X.2.1 dX12_house_67 ?_
          refine lv_goto (tgt := 77) X.1 X.2.1 dX12_house_68 (by decide) ?_
          have h9 := hE
          exact r_iret X I (e_i (pr_fst h9) (pr_snd h9) rfl) dX12_house_77
      · skip
        have hE := ite_t hE c_3
        have ho := ite_tP ho c_3
        refine lv_aload_n X.1 X.2.1 dX12_house_41 rfl (lv_at hl 0 rfl) ?_
        refine g12_27 X I (k := 123) (by decide) rfl lf_X12_58 dX12_house_42 ?_
        refine lv_iconst (v := 0) X.1 X.2.1 dX12_house_45 (by decide) ?_
        refine lv_iload_n X.1 X.2.1 dX12_house_46 rfl (lv_at hl 1 rfl) ?_
        refine lv_iadd X.1 X.2.1 dX12_house_47 ?_
        have ho2 := ho.1
        have ho := ho.2
        refine r_ald X I (k := 140) (n := 255) (by decide) rfl ho2 dX12_house_48 ?_
        refine lv_goto (tgt := 77) X.1 X.2.1 dX12_house_49 (by decide) ?_
        have h9 := hE
        exact r_iret X I (e_i (pr_fst h9) (pr_snd h9) rfl) dX12_house_77
    · skip
      have hE := ite_t hE c_2
      have ho := ite_tP ho c_2
      refine lv_iconst (v := 0) X.1 X.2.1 dX12_house_34 (by decide) ?_
      have h9 := hE
      exact r_iret X I (e_i (pr_fst h9) (pr_snd h9) rfl) dX12_house_35
  · skip
    have hE := ite_t hE (b2i_y c_1)
    have ho := ite_tP ho (b2i_y c_1)
    refine lv_iload_n X.1 X.2.1 dX12_house_9 rfl (lv_at hl 2 rfl) ?_
    refine lv_iconst (v := 0) X.1 X.2.1 dX12_house_10 (by decide) ?_
    refine lv_iconst (v := 4) X.1 X.2.1 dX12_house_11 (by decide) ?_
    refine r_ei I (r_runS X I pk_X12_in (c12_in l G _ _ _ _ _) lm_X12_220 rfl hl.1 rfl (Nat.le_of_ble_eq_true rfl) dX12_house_12 ⟨Nat.le_of_ble_eq_true rfl, Nat.le_of_ble_eq_true rfl⟩ ⟨Nat.le_refl 0, Nat.le_refl 0⟩) (fun H locs I => ?_)
    refine lv_if_eq (tgt := 22) X.1 X.2.1 dX12_house_15 (by decide) (fun c_5 => ?_) (fun c_5 => ?_)
    · skip
      have hE := ite_f hE (b2i_n c_5)
      have ho := ite_fP ho (b2i_n c_5)
      refine lv_iconst (v := 1) X.1 X.2.1 dX12_house_22 (by decide) ?_
      refine p12_0 X I (k := 123) (by decide) rfl lf_X12_105 dX12_house_23 (fun H locs I => ?_)
      refine lv_aload_n X.1 X.2.1 dX12_house_26 rfl (lv_at hl 0 rfl) ?_
      refine g12_0 X I (k := 123) (by decide) rfl lf_X12_105 dX12_house_27 ?_
      refine lv_iconst (v := 1) X.1 X.2.1 dX12_house_30 (by decide) ?_
      refine lv_icmp_ne (tgt := 36) X.1 X.2.1 dX12_house_31 (by decide) (fun c_6 => ?_) (fun c_6 => ?_)
      · skip
        have hE := ite_f hE c_6
        have ho := ite_fP ho c_6
        refine lv_iload_n X.1 X.2.1 dX12_house_36 rfl (lv_at hl 2 rfl) ?_
        refine lv_iconst (v := 2) X.1 X.2.1 dX12_house_37 (by decide) ?_
        refine lv_icmp_ne (tgt := 52) X.1 X.2.1 dX12_house_38 (by decide) (fun c_7 => ?_) (fun c_7 => ?_)
        · skip
          have hE := ite_f hE c_7
          have ho := ite_fP ho c_7
          refine lv_iload_n X.1 X.2.1 dX12_house_52 rfl (lv_at hl 2 rfl) ?_
          refine lv_iconst (v := 4) X.1 X.2.1 dX12_house_53 (by decide) ?_
          refine lv_icmp_ne (tgt := 71) X.1 X.2.1 dX12_house_54 (by decide) (fun c_8 => ?_) (fun c_8 => ?_)
          · skip
            have hE := ite_f hE c_8
            have ho := ite_fP ho c_8
            refine lv_aload_n X.1 X.2.1 dX12_house_71 rfl (lv_at hl 0 rfl) ?_
            refine lv_iload_n X.1 X.2.1 dX12_house_72 rfl (lv_at hl 1 rfl) ?_
            refine lv_iload_n X.1 X.2.1 dX12_house_73 rfl (lv_at hl 2 rfl) ?_
            have ho3 := ho.1
            have ho := ho.2
            refine r_ei I (r_runV X I pk_X12_of (c12_of l G _ _ _ _ ho3) lm_X12_270 (by decide) (cl_12 rfl) rfl rfl rfl hl.1 rfl (Nat.le_of_ble_eq_true rfl) dX12_house_74 ⟨Nat.le_of_ble_eq_true rfl, Nat.le_of_ble_eq_true rfl⟩ ⟨Nat.le_refl 0, Nat.le_refl 0⟩) (fun H locs I => ?_)
            have h9 := hE
            exact r_iret X I (e_i (pr_fst h9) (pr_snd h9) rfl) dX12_house_77
          · skip
            have hE := ite_t hE c_8
            have ho := ite_tP ho c_8
            refine lv_aload_n X.1 X.2.1 dX12_house_57 rfl (lv_at hl 0 rfl) ?_
            refine g12_27 X I (k := 123) (by decide) rfl lf_X12_58 dX12_house_58 ?_
            refine lv_bipush (v := 11) X.1 X.2.1 dX12_house_61 (by decide) ?_
            refine r_ald X I (k := 140) (n := 255) (by decide) rfl (by unfold vp_in; decide) dX12_house_63 ?_
            refine lv_iload_n X.1 X.2.1 dX12_house_64 rfl (lv_at hl 1 rfl) ?_
            refine lv_ishr X.1 X.2.1 dX12_house_65 ?_
            refine lv_iconst (v := 1) X.1 X.2.1 dX12_house_66 (by decide) ?_
            refine lv_iand X.1 X.2.1 dX12_house_67 ?_
            refine lv_goto (tgt := 77) X.1 X.2.1 dX12_house_68 (by decide) ?_
            have h9 := hE
            exact r_iret X I (e_i (pr_fst h9) (pr_snd h9) rfl) dX12_house_77
        · skip
          have hE := ite_t hE c_7
          have ho := ite_tP ho c_7
          refine lv_aload_n X.1 X.2.1 dX12_house_41 rfl (lv_at hl 0 rfl) ?_
          refine g12_27 X I (k := 123) (by decide) rfl lf_X12_58 dX12_house_42 ?_
          refine lv_iconst (v := 0) X.1 X.2.1 dX12_house_45 (by decide) ?_
          refine lv_iload_n X.1 X.2.1 dX12_house_46 rfl (lv_at hl 1 rfl) ?_
          refine lv_iadd X.1 X.2.1 dX12_house_47 ?_
          have ho4 := ho.1
          have ho := ho.2
          refine r_ald X I (k := 140) (n := 255) (by decide) rfl ho4 dX12_house_48 ?_
          refine lv_goto (tgt := 77) X.1 X.2.1 dX12_house_49 (by decide) ?_
          have h9 := hE
          exact r_iret X I (e_i (pr_fst h9) (pr_snd h9) rfl) dX12_house_77
      · skip
        have hE := ite_t hE c_6
        have ho := ite_tP ho c_6
        refine lv_iconst (v := 0) X.1 X.2.1 dX12_house_34 (by decide) ?_
        have h9 := hE
        exact r_iret X I (e_i (pr_fst h9) (pr_snd h9) rfl) dX12_house_35
    · skip
      have hE := ite_t hE (b2i_y c_5)
      have ho := ite_tP ho (b2i_y c_5)
      refine lv_iconst (v := 0) X.1 X.2.1 dX12_house_18 (by decide) ?_
      refine lv_goto (tgt := 23) X.1 X.2.1 dX12_house_19 (by decide) ?_
      refine p12_0 X I (k := 123) (by decide) rfl lf_X12_105 dX12_house_23 (fun H locs I => ?_)
      refine lv_aload_n X.1 X.2.1 dX12_house_26 rfl (lv_at hl 0 rfl) ?_
      refine g12_0 X I (k := 123) (by decide) rfl lf_X12_105 dX12_house_27 ?_
      refine lv_iconst (v := 1) X.1 X.2.1 dX12_house_30 (by decide) ?_
      refine lv_icmp_ne (tgt := 36) X.1 X.2.1 dX12_house_31 (by decide) (fun c_9 => ?_) (fun c_9 => ?_)
      · skip
        have hE := ite_f hE c_9
        have ho := ite_fP ho c_9
        refine lv_iload_n X.1 X.2.1 dX12_house_36 rfl (lv_at hl 2 rfl) ?_
        refine lv_iconst (v := 2) X.1 X.2.1 dX12_house_37 (by decide) ?_
        refine lv_icmp_ne (tgt := 52) X.1 X.2.1 dX12_house_38 (by decide) (fun c_10 => ?_) (fun c_10 => ?_)
        · skip
          have hE := ite_f hE c_10
          have ho := ite_fP ho c_10
          refine lv_iload_n X.1 X.2.1 dX12_house_52 rfl (lv_at hl 2 rfl) ?_
          refine lv_iconst (v := 4) X.1 X.2.1 dX12_house_53 (by decide) ?_
          refine lv_icmp_ne (tgt := 71) X.1 X.2.1 dX12_house_54 (by decide) (fun c_11 => ?_) (fun c_11 => ?_)
          · skip
            have hE := ite_f hE c_11
            have ho := ite_fP ho c_11
            refine lv_aload_n X.1 X.2.1 dX12_house_71 rfl (lv_at hl 0 rfl) ?_
            refine lv_iload_n X.1 X.2.1 dX12_house_72 rfl (lv_at hl 1 rfl) ?_
            refine lv_iload_n X.1 X.2.1 dX12_house_73 rfl (lv_at hl 2 rfl) ?_
            have ho5 := ho.1
            have ho := ho.2
            refine r_ei I (r_runV X I pk_X12_of (c12_of l G _ _ _ _ ho5) lm_X12_270 (by decide) (cl_12 rfl) rfl rfl rfl hl.1 rfl (Nat.le_of_ble_eq_true rfl) dX12_house_74 ⟨Nat.le_of_ble_eq_true rfl, Nat.le_of_ble_eq_true rfl⟩ ⟨Nat.le_refl 0, Nat.le_refl 0⟩) (fun H locs I => ?_)
            have h9 := hE
            exact r_iret X I (e_i (pr_fst h9) (pr_snd h9) rfl) dX12_house_77
          · skip
            have hE := ite_t hE c_11
            have ho := ite_tP ho c_11
            refine lv_aload_n X.1 X.2.1 dX12_house_57 rfl (lv_at hl 0 rfl) ?_
            refine g12_27 X I (k := 123) (by decide) rfl lf_X12_58 dX12_house_58 ?_
            refine lv_bipush (v := 11) X.1 X.2.1 dX12_house_61 (by decide) ?_
            refine r_ald X I (k := 140) (n := 255) (by decide) rfl (by unfold vp_in; decide) dX12_house_63 ?_
            refine lv_iload_n X.1 X.2.1 dX12_house_64 rfl (lv_at hl 1 rfl) ?_
            refine lv_ishr X.1 X.2.1 dX12_house_65 ?_
            refine lv_iconst (v := 1) X.1 X.2.1 dX12_house_66 (by decide) ?_
            refine lv_iand X.1 X.2.1 dX12_house_67 ?_
            refine lv_goto (tgt := 77) X.1 X.2.1 dX12_house_68 (by decide) ?_
            have h9 := hE
            exact r_iret X I (e_i (pr_fst h9) (pr_snd h9) rfl) dX12_house_77
        · skip
          have hE := ite_t hE c_10
          have ho := ite_tP ho c_10
          refine lv_aload_n X.1 X.2.1 dX12_house_41 rfl (lv_at hl 0 rfl) ?_
          refine g12_27 X I (k := 123) (by decide) rfl lf_X12_58 dX12_house_42 ?_
          refine lv_iconst (v := 0) X.1 X.2.1 dX12_house_45 (by decide) ?_
          refine lv_iload_n X.1 X.2.1 dX12_house_46 rfl (lv_at hl 1 rfl) ?_
          refine lv_iadd X.1 X.2.1 dX12_house_47 ?_
          have ho6 := ho.1
          have ho := ho.2
          refine r_ald X I (k := 140) (n := 255) (by decide) rfl ho6 dX12_house_48 ?_
          refine lv_goto (tgt := 77) X.1 X.2.1 dX12_house_49 (by decide) ?_
          have h9 := hE
          exact r_iret X I (e_i (pr_fst h9) (pr_snd h9) rfl) dX12_house_77
      · skip
        have hE := ite_t hE c_9
        have ho := ite_tP ho c_9
        refine lv_iconst (v := 0) X.1 X.2.1 dX12_house_34 (by decide) ?_
        have h9 := hE
        exact r_iret X I (e_i (pr_fst h9) (pr_snd h9) rfl) dX12_house_35
