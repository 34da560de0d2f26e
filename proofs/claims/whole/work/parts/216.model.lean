noncomputable def f12_isRefused (σ : SI) (x1 : Int32) : Bool × SI := if x1 = (-1 : Int32) then (if x1 = (-1 : Int32) then (false, σ) else (true, σ)) else (let s0 := sp σ 141 (Int32.toNatClampNeg x1) ((σ 141 (Int32.toNatClampNeg x1)) + (1 : Int32)); if x1 = (-1 : Int32) then (false, s0) else (true, s0))
noncomputable def o12_isRefused (σ : SI) (x1 : Int32) : Prop := if x1 = (-1 : Int32) then (if x1 = (-1 : Int32) then True else True) else ((vp_in x1 5) ∧ ((vp_in x1 5) ∧ (let s0 := sp σ 141 (Int32.toNatClampNeg x1) ((σ 141 (Int32.toNatClampNeg x1)) + (1 : Int32)); if x1 = (-1 : Int32) then True else True)))
theorem w_f12_isRefused (σ : SI) (x1 : Int32) (a : Nat) (h0 : a ≠ 141) : (f12_isRefused σ x1).2 a = σ a := by
  refine fp_to2 ?_
  unfold f12_isRefused
  exact (fr_ite2 (fr_ite2 (fr_mk21 rfl) (fr_mk21 rfl)) (fr_ite2 (fr_mk21 (sp_n h0)) (fr_mk21 (sp_n h0))))
set_option maxHeartbeats 4000000 in
set_option maxRecDepth 100000 in
theorem c12_isRefused (l : Launch) (G : GT) (σ : SI) (τ : SL) (x1 : Int32) (ho : o12_isRefused σ x1) : Mc l yX12_isRefused cX12_isRefused 2 (some .boolean) 0 G [.ref (G.2.1 123), .int x1] σ τ (Qi G (Ei (b2i (f12_isRefused σ x1).1) (f12_isRefused σ x1).2 τ)) := by
  refine m_start (by decide +kernel) (Nat.le_of_ble_eq_true rfl) rfl (fun p e s m args below meth c ls X I hl => ?_)
  have hl : lv_has ls 2 [(0, .ref (G.2.1 123)), (1, .int x1)] := hl
  obtain ⟨E, hE⟩ : ∃ E, E = (f12_isRefused σ x1) := ⟨_, rfl⟩
  rw [← hE]
  unfold o12_isRefused at ho
  refine lv_iload_n X.1 X.2.1 dX12_isRefused_0 rfl (lv_at hl 1 rfl) ?_
  refine lv_iconst (v := (-1)) X.1 X.2.1 dX12_isRefused_1 (by decide) ?_
  refine lv_icmp_eq (tgt := 15) X.1 X.2.1 dX12_isRefused_2 (by decide) (fun c_1 => ?_) (fun c_1 => ?_)
  · skip
    have hE := ite_t hE c_1
    have ho := ite_tP ho c_1
    refine lv_iload_n X.1 X.2.1 dX12_isRefused_15 rfl (lv_at hl 1 rfl) ?_
    refine lv_iconst (v := (-1)) X.1 X.2.1 dX12_isRefused_16 (by decide) ?_
    refine lv_icmp_eq (tgt := 24) X.1 X.2.1 dX12_isRefused_17 (by decide) (fun c_2 => ?_) (fun c_2 => ?_)
    · skip
      have hE := ite_t hE c_2
      have ho := ite_tP ho c_2
      refine lv_iconst (v := 0) X.1 X.2.1 dX12_isRefused_24 (by decide) ?_
      have h9 := hE
      exact r_zret X I rfl (e_i (congrArg b2i (pr_fst (a := false) h9)) (pr_snd h9) rfl) dX12_isRefused_25
    · skip
      have hE := ite_f hE c_2
      have ho := ite_fP ho c_2
      refine lv_iconst (v := 1) X.1 X.2.1 dX12_isRefused_20 (by decide) ?_
      refine lv_goto (tgt := 25) X.1 X.2.1 dX12_isRefused_21 (by decide) ?_
      have h9 := hE
      exact r_zret X I rfl (e_i (congrArg b2i (pr_fst (a := true) h9)) (pr_snd h9) rfl) dX12_isRefused_25
  · skip
    have hE := ite_f hE c_1
    have ho := ite_fP ho c_1
    refine lv_aload_n X.1 X.2.1 dX12_isRefused_5 rfl (lv_at hl 0 rfl) ?_
    refine g12_28 X I (k := 123) (by decide) rfl lf_X12_61 dX12_isRefused_6 ?_
    refine lv_iload_n X.1 X.2.1 dX12_isRefused_9 rfl (lv_at hl 1 rfl) ?_
    refine lv_dup2_11 X.1 X.2.1 dX12_isRefused_10 rfl rfl ?_
    have ho1 := ho.1
    have ho := ho.2
    refine r_ald X I (k := 141) (n := 5) (by decide) rfl ho1 dX12_isRefused_11 ?_
    refine lv_iconst (v := 1) X.1 X.2.1 dX12_isRefused_12 (by decide) ?_
    refine lv_iadd X.1 X.2.1 dX12_isRefused_13 ?_
    have ho2 := ho.1
    have ho := ho.2
    refine r_ast X I (k := 141) (n := 5) (by decide) rfl ho2 dX12_isRefused_14 (fun H locs I => ?_)
    refine lv_iload_n X.1 X.2.1 dX12_isRefused_15 rfl (lv_at hl 1 rfl) ?_
    refine lv_iconst (v := (-1)) X.1 X.2.1 dX12_isRefused_16 (by decide) ?_
    refine lv_icmp_eq (tgt := 24) X.1 X.2.1 dX12_isRefused_17 (by decide) (fun c_3 => ?_) (fun c_3 => ?_)
    · skip
      have hE := ite_t hE c_3
      have ho := ite_tP ho c_3
      refine lv_iconst (v := 0) X.1 X.2.1 dX12_isRefused_24 (by decide) ?_
      have h9 := hE
      exact r_zret X I rfl (e_i (congrArg b2i (pr_fst (a := false) h9)) (pr_snd h9) rfl) dX12_isRefused_25
    · skip
      have hE := ite_f hE c_3
      have ho := ite_fP ho c_3
      refine lv_iconst (v := 1) X.1 X.2.1 dX12_isRefused_20 (by decide) ?_
      refine lv_goto (tgt := 25) X.1 X.2.1 dX12_isRefused_21 (by decide) ?_
      have h9 := hE
      exact r_zret X I rfl (e_i (congrArg b2i (pr_fst (a := true) h9)) (pr_snd h9) rfl) dX12_isRefused_25
noncomputable def f12_whyNot (σ : SI) (x1 : Int32) : Int32 × SI := if (f12_isHouse σ x1) = true then (let r0 := (f12_endOf σ x1); if (r0.2 137 0) < r0.1 then (if (r0.2 140 10) = x1 then ((2 : Int32), r0.2) else (if (f12_has (r0.2 140 11) x1) = true then ((2 : Int32), r0.2) else ((4 : Int32), r0.2))) else (if ((r0.2 140 9) + (f12_stepsNow r0.2 x1)) ≤ (f12_allStrength r0.2) then (if (r0.2 140 10) = x1 then ((2 : Int32), r0.2) else (if (f12_has (r0.2 140 11) x1) = true then ((2 : Int32), r0.2) else ((-1 : Int32), r0.2))) else (if (r0.2 140 10) = x1 then ((2 : Int32), r0.2) else (if (f12_has (r0.2 140 11) x1) = true then ((2 : Int32), r0.2) else ((4 : Int32), r0.2))))) else ((0 : Int32), σ)
noncomputable def o12_whyNot (σ : SI) (x1 : Int32) : Prop := if (f12_isHouse σ x1) = true then ((o12_endOf σ x1) ∧ (let r0 := (f12_endOf σ x1); if (r0.2 137 0) < r0.1 then (if (r0.2 140 10) = x1 then True else (if (f12_has (r0.2 140 11) x1) = true then True else True)) else ((o12_stepsNow r0.2 x1) ∧ ((o12_allStrength r0.2) ∧ (if ((r0.2 140 9) + (f12_stepsNow r0.2 x1)) ≤ (f12_allStrength r0.2) then (if (r0.2 140 10) = x1 then True else (if (f12_has (r0.2 140 11) x1) = true then True else True)) else (if (r0.2 140 10) = x1 then True else (if (f12_has (r0.2 140 11) x1) = true then True else True))))))) else True
theorem w_f12_whyNot (σ : SI) (x1 : Int32) (a : Nat) (h0 : a ≠ 132) (h1 : a ≠ 133) : (f12_whyNot σ x1).2 a = σ a := by
  refine fp_to2 ?_
  unfold f12_whyNot
  exact (fr_ite2 (fr_ite2 (fr_ite2 (fr_mk21 (w_f12_endOf _ _ a h0 h1)) (fr_ite2 (fr_mk21 (w_f12_endOf _ _ a h0 h1)) (fr_mk21 (w_f12_endOf _ _ a h0 h1)))) (fr_ite2 (fr_ite2 (fr_mk21 (w_f12_endOf _ _ a h0 h1)) (fr_ite2 (fr_mk21 (w_f12_endOf _ _ a h0 h1)) (fr_mk21 (w_f12_endOf _ _ a h0 h1)))) (fr_ite2 (fr_mk21 (w_f12_endOf _ _ a h0 h1)) (fr_ite2 (fr_mk21 (w_f12_endOf _ _ a h0 h1)) (fr_mk21 (w_f12_endOf _ _ a h0 h1)))))) (fr_mk21 rfl))
set_option maxHeartbeats 4000000 in
set_option maxRecDepth 100000 in
theorem c12_whyNot (l : Launch) (G : GT) (σ : SI) (τ : SL) (x1 : Int32) (ho : o12_whyNot σ x1) : Mc l yX12_whyNot cX12_whyNot 3 (some .int) 9 G [.ref (G.2.1 123), .int x1] σ τ (Qi G (Ei (f12_whyNot σ x1).1 (f12_whyNot σ x1).2 τ)) := by
  refine m_start (by decide +kernel) (Nat.le_of_ble_eq_true rfl) rfl (fun p e s m args below meth c ls X I hl => ?_)
  have hl : lv_has ls 3 [(0, .ref (G.2.1 123)), (1, .int x1)] := hl
  obtain ⟨E, hE⟩ : ∃ E, E = (f12_whyNot σ x1) := ⟨_, rfl⟩
  rw [← hE]
  unfold o12_whyNot at ho
  refine lv_aload_n X.1 X.2.1 dX12_whyNot_0 rfl (lv_at hl 0 rfl) ?_
  refine lv_iload_n X.1 X.2.1 dX12_whyNot_1 rfl (lv_at hl 1 rfl) ?_
  refine r_ei I (r_runV X I pk_X12_isHouse (c12_isHouse l G _ _ _) lm_X12_332 (by decide) (cl_12 rfl) rfl rfl rfl hl.1 rfl (Nat.le_of_ble_eq_true rfl) dX12_whyNot_2 ⟨Nat.le_of_ble_eq_true rfl, Nat.le_of_ble_eq_true rfl⟩ ⟨Nat.le_refl 0, Nat.le_refl 0⟩) (fun H locs I => ?_)
  refine lv_if_ne (tgt := 10) X.1 X.2.1 dX12_whyNot_5 (by decide) (fun c_1 => ?_) (fun c_1 => ?_)
  · skip
    have hE := ite_t hE (b2i_y c_1)
    have ho := ite_tP ho (b2i_y c_1)
    refine lv_aload_n X.1 X.2.1 dX12_whyNot_10 rfl (lv_at hl 0 rfl) ?_
    refine lv_iload_n X.1 X.2.1 dX12_whyNot_11 rfl (lv_at hl 1 rfl) ?_
    have ho1 := ho.1
    have ho := ho.2
    refine r_ei I (r_runV X I pk_X12_endOf (c12_endOf l G _ _ _ ho1) lm_X12_335 (by decide) (cl_12 rfl) rfl rfl rfl hl.1 rfl (Nat.le_of_ble_eq_true rfl) dX12_whyNot_12 ⟨Nat.le_of_ble_eq_true rfl, Nat.le_of_ble_eq_true rfl⟩ ⟨Nat.le_refl 0, Nat.le_refl 0⟩) (fun H locs I => ?_)
    refine lv_aload_n X.1 X.2.1 dX12_whyNot_15 rfl (lv_at hl 0 rfl) ?_
    refine g12_22 X I (k := 123) (by decide) rfl lf_X12_49 dX12_whyNot_16 ?_
    refine lv_iconst (v := 0) X.1 X.2.1 dX12_whyNot_19 (by decide) ?_
    refine r_ald X I (k := 137) (n := 3) (by decide) rfl (by unfold vp_in; decide) dX12_whyNot_20 ?_
    refine lv_icmp_gt (tgt := 44) X.1 X.2.1 dX12_whyNot_21 (by decide) (fun c_2 => ?_) (fun c_2 => ?_)
    · skip
      have hE := ite_t hE c_2
      have ho := ite_tP ho c_2
      refine lv_iconst (v := 1) X.1 X.2.1 dX12_whyNot_44 (by decide) ?_
      refine lv_goto (tgt := 49) X.1 X.2.1 dX12_whyNot_45 (by decide) ?_
      refine lv_istore_n (lv' := [(2, .int _), (0, .ref _), (1, .int _)]) X.1 X.2.1 dX12_whyNot_49 rfl hl (by decide) rfl (fun ls hl => ?_)
      refine lv_aload_n X.1 X.2.1 dX12_whyNot_50 rfl (lv_at hl 1 rfl) ?_
      refine g12_27 X I (k := 123) (by decide) rfl lf_X12_58 dX12_whyNot_51 ?_
      refine lv_bipush (v := 10) X.1 X.2.1 dX12_whyNot_54 (by decide) ?_
      refine r_ald X I (k := 140) (n := 255) (by decide) rfl (by unfold vp_in; decide) dX12_whyNot_56 ?_
      refine lv_iload_n X.1 X.2.1 dX12_whyNot_57 rfl (lv_at hl 2 rfl) ?_
      refine lv_icmp_eq (tgt := 75) X.1 X.2.1 dX12_whyNot_58 (by decide) (fun c_3 => ?_) (fun c_3 => ?_)
      · skip
        have hE := ite_t hE c_3
        have ho := ite_tP ho c_3
        refine lv_iconst (v := 2) X.1 X.2.1 dX12_whyNot_75 (by decide) ?_
        refine lv_goto (tgt := 88) X.1 X.2.1 dX12_whyNot_76 (by decide) ?_
        have h9 := hE
        exact r_iret X I (e_i (pr_fst h9) (pr_snd h9) rfl) dX12_whyNot_88
      · skip
        have hE := ite_f hE c_3
        have ho := ite_fP ho c_3
        refine lv_aload_n X.1 X.2.1 dX12_whyNot_61 rfl (lv_at hl 1 rfl) ?_
        refine g12_27 X I (k := 123) (by decide) rfl lf_X12_58 dX12_whyNot_62 ?_
        refine lv_bipush (v := 11) X.1 X.2.1 dX12_whyNot_65 (by decide) ?_
        refine r_ald X I (k := 140) (n := 255) (by decide) rfl (by unfold vp_in; decide) dX12_whyNot_67 ?_
        refine lv_iload_n X.1 X.2.1 dX12_whyNot_68 rfl (lv_at hl 2 rfl) ?_
        refine r_ei I (r_runS X I pk_X12_has (c12_has l G _ _ _ _) lm_X12_231 rfl hl.1 rfl (Nat.le_of_ble_eq_true rfl) dX12_whyNot_69 ⟨Nat.le_of_ble_eq_true rfl, Nat.le_of_ble_eq_true rfl⟩ ⟨Nat.le_refl 0, Nat.le_refl 0⟩) (fun H locs I => ?_)
        refine lv_if_eq (tgt := 79) X.1 X.2.1 dX12_whyNot_72 (by decide) (fun c_4 => ?_) (fun c_4 => ?_)
        · skip
          have hE := ite_f hE (b2i_n c_4)
          have ho := ite_fP ho (b2i_n c_4)
          refine lv_iload_n X.1 X.2.1 dX12_whyNot_79 rfl (lv_at hl 0 rfl) ?_
          refine lv_if_eq (tgt := 87) X.1 X.2.1 dX12_whyNot_80 (by decide) (fun c_5 => ?_) (fun c_5 => ?_)
          · exact absurd c_5 (by decide)
          · skip
            refine lv_iconst (v := 4) X.1 X.2.1 dX12_whyNot_83 (by decide) ?_
            refine lv_goto (tgt := 88) X.1 X.2.1 dX12_whyNot_84 (by decide) ?_
            have h9 := hE
            exact r_iret X I (e_i (pr_fst h9) (pr_snd h9) rfl) dX12_whyNot_88
        · skip
          have hE := ite_t hE (b2i_y c_4)
          have ho := ite_tP ho (b2i_y c_4)
          refine lv_iconst (v := 2) X.1 X.2.1 dX12_whyNot_75 (by decide) ?_
          refine lv_goto (tgt := 88) X.1 X.2.1 dX12_whyNot_76 (by decide) ?_
          have h9 := hE
          exact r_iret X I (e_i (pr_fst h9) (pr_snd h9) rfl) dX12_whyNot_88
    · skip
      have hE := ite_f hE c_2
      have ho := ite_fP ho c_2
      refine lv_aload_n X.1 X.2.1 dX12_whyNot_24 rfl (lv_at hl 0 rfl) ?_
      refine g12_27 X I (k := 123) (by decide) rfl lf_X12_58 dX12_whyNot_25 ?_
      refine lv_bipush (v := 9) X.1 X.2.1 dX12_whyNot_28 (by decide) ?_
      refine r_ald X I (k := 140) (n := 255) (by decide) rfl (by unfold vp_in; decide) dX12_whyNot_30 ?_
      refine lv_aload_n X.1 X.2.1 dX12_whyNot_31 rfl (lv_at hl 0 rfl) ?_
      refine lv_iload_n X.1 X.2.1 dX12_whyNot_32 rfl (lv_at hl 1 rfl) ?_
      have ho2 := ho.1
      have ho := ho.2
      refine r_ei I (r_runV X I pk_X12_stepsNow (c12_stepsNow l G _ _ _ ho2) lm_X12_313 (by decide) (cl_12 rfl) rfl rfl rfl hl.1 rfl (Nat.le_of_ble_eq_true rfl) dX12_whyNot_33 ⟨Nat.le_of_ble_eq_true rfl, Nat.le_of_ble_eq_true rfl⟩ ⟨Nat.le_refl 0, Nat.le_refl 0⟩) (fun H locs I => ?_)
      refine lv_iadd X.1 X.2.1 dX12_whyNot_36 ?_
      refine lv_aload_n X.1 X.2.1 dX12_whyNot_37 rfl (lv_at hl 0 rfl) ?_
      have ho3 := ho.1
      have ho := ho.2
      refine r_ei I (r_runV X I pk_X12_allStrength (c12_allStrength l G _ _ ho3) lm_X12_329 (by decide) (cl_12 rfl) rfl rfl rfl hl.1 rfl (Nat.le_of_ble_eq_true rfl) dX12_whyNot_38 ⟨Nat.le_of_ble_eq_true rfl, Nat.le_of_ble_eq_true rfl⟩ ⟨Nat.le_refl 0, Nat.le_refl 0⟩) (fun H locs I => ?_)
      refine lv_icmp_le (tgt := 48) X.1 X.2.1 dX12_whyNot_41 (by decide) (fun c_6 => ?_) (fun c_6 => ?_)
      · skip
        have hE := ite_t hE c_6
        have ho := ite_tP ho c_6
        refine lv_iconst (v := 0) X.1 X.2.1 dX12_whyNot_48 (by decide) ?_
        refine lv_istore_n (lv' := [(2, .int _), (0, .ref _), (1, .int _)]) X.1 X.2.1 dX12_whyNot_49 rfl hl (by decide) rfl (fun ls hl => ?_)
        refine lv_aload_n X.1 X.2.1 dX12_whyNot_50 rfl (lv_at hl 1 rfl) ?_
        refine g12_27 X I (k := 123) (by decide) rfl lf_X12_58 dX12_whyNot_51 ?_
        refine lv_bipush (v := 10) X.1 X.2.1 dX12_whyNot_54 (by decide) ?_
        refine r_ald X I (k := 140) (n := 255) (by decide) rfl (by unfold vp_in; decide) dX12_whyNot_56 ?_
        refine lv_iload_n X.1 X.2.1 dX12_whyNot_57 rfl (lv_at hl 2 rfl) ?_
        refine lv_icmp_eq (tgt := 75) X.1 X.2.1 dX12_whyNot_58 (by decide) (fun c_7 => ?_) (fun c_7 => ?_)
        · skip
          have hE := ite_t hE c_7
          have ho := ite_tP ho c_7
          refine lv_iconst (v := 2) X.1 X.2.1 dX12_whyNot_75 (by decide) ?_
          refine lv_goto (tgt := 88) X.1 X.2.1 dX12_whyNot_76 (by decide) ?_
          have h9 := hE
          exact r_iret X I (e_i (pr_fst h9) (pr_snd h9) rfl) dX12_whyNot_88
        · skip
          have hE := ite_f hE c_7
          have ho := ite_fP ho c_7
          refine lv_aload_n X.1 X.2.1 dX12_whyNot_61 rfl (lv_at hl 1 rfl) ?_
          refine g12_27 X I (k := 123) (by decide) rfl lf_X12_58 dX12_whyNot_62 ?_
          refine lv_bipush (v := 11) X.1 X.2.1 dX12_whyNot_65 (by decide) ?_
          refine r_ald X I (k := 140) (n := 255) (by decide) rfl (by unfold vp_in; decide) dX12_whyNot_67 ?_
          refine lv_iload_n X.1 X.2.1 dX12_whyNot_68 rfl (lv_at hl 2 rfl) ?_
          refine r_ei I (r_runS X I pk_X12_has (c12_has l G _ _ _ _) lm_X12_231 rfl hl.1 rfl (Nat.le_of_ble_eq_true rfl) dX12_whyNot_69 ⟨Nat.le_of_ble_eq_true rfl, Nat.le_of_ble_eq_true rfl⟩ ⟨Nat.le_refl 0, Nat.le_refl 0⟩) (fun H locs I => ?_)
          refine lv_if_eq (tgt := 79) X.1 X.2.1 dX12_whyNot_72 (by decide) (fun c_8 => ?_) (fun c_8 => ?_)
          · skip
            have hE := ite_f hE (b2i_n c_8)
            have ho := ite_fP ho (b2i_n c_8)
            refine lv_iload_n X.1 X.2.1 dX12_whyNot_79 rfl (lv_at hl 0 rfl) ?_
            refine lv_if_eq (tgt := 87) X.1 X.2.1 dX12_whyNot_80 (by decide) (fun c_9 => ?_) (fun c_9 => ?_)
            · skip
              refine lv_iconst (v := (-1)) X.1 X.2.1 dX12_whyNot_87 (by decide) ?_
              have h9 := hE
              exact r_iret X I (e_i (pr_fst h9) (pr_snd h9) rfl) dX12_whyNot_88
            · exact absurd c_9 (by decide)
          · skip
            have hE := ite_t hE (b2i_y c_8)
            have ho := ite_tP ho (b2i_y c_8)
            refine lv_iconst (v := 2) X.1 X.2.1 dX12_whyNot_75 (by decide) ?_
            refine lv_goto (tgt := 88) X.1 X.2.1 dX12_whyNot_76 (by decide) ?_
            have h9 := hE
            exact r_iret X I (e_i (pr_fst h9) (pr_snd h9) rfl) dX12_whyNot_88
      · skip
        have hE := ite_f hE c_6
        have ho := ite_fP ho c_6
        refine lv_iconst (v := 1) X.1 X.2.1 dX12_whyNot_44 (by decide) ?_
        refine lv_goto (tgt := 49) X.1 X.2.1 dX12_whyNot_45 (by decide) ?_
        refine lv_istore_n (lv' := [(2, .int _), (0, .ref _), (1, .int _)]) X.1 X.2.1 dX12_whyNot_49 rfl hl (by decide) rfl (fun ls hl => ?_)
        refine lv_aload_n X.1 X.2.1 dX12_whyNot_50 rfl (lv_at hl 1 rfl) ?_
        refine g12_27 X I (k := 123) (by decide) rfl lf_X12_58 dX12_whyNot_51 ?_
        refine lv_bipush (v := 10) X.1 X.2.1 dX12_whyNot_54 (by decide) ?_
        refine r_ald X I (k := 140) (n := 255) (by decide) rfl (by unfold vp_in; decide) dX12_whyNot_56 ?_
        refine lv_iload_n X.1 X.2.1 dX12_whyNot_57 rfl (lv_at hl 2 rfl) ?_
        refine lv_icmp_eq (tgt := 75) X.1 X.2.1 dX12_whyNot_58 (by decide) (fun c_10 => ?_) (fun c_10 => ?_)
        · skip
          have hE := ite_t hE c_10
          have ho := ite_tP ho c_10
          refine lv_iconst (v := 2) X.1 X.2.1 dX12_whyNot_75 (by decide) ?_
          refine lv_goto (tgt := 88) X.1 X.2.1 dX12_whyNot_76 (by decide) ?_
          have h9 := hE
          exact r_iret X I (e_i (pr_fst h9) (pr_snd h9) rfl) dX12_whyNot_88
        · skip
          have hE := ite_f hE c_10
          have ho := ite_fP ho c_10
          refine lv_aload_n X.1 X.2.1 dX12_whyNot_61 rfl (lv_at hl 1 rfl) ?_
          refine g12_27 X I (k := 123) (by decide) rfl lf_X12_58 dX12_whyNot_62 ?_
          refine lv_bipush (v := 11) X.1 X.2.1 dX12_whyNot_65 (by decide) ?_
          refine r_ald X I (k := 140) (n := 255) (by decide) rfl (by unfold vp_in; decide) dX12_whyNot_67 ?_
          refine lv_iload_n X.1 X.2.1 dX12_whyNot_68 rfl (lv_at hl 2 rfl) ?_
          refine r_ei I (r_runS X I pk_X12_has (c12_has l G _ _ _ _) lm_X12_231 rfl hl.1 rfl (Nat.le_of_ble_eq_true rfl) dX12_whyNot_69 ⟨Nat.le_of_ble_eq_true rfl, Nat.le_of_ble_eq_true rfl⟩ ⟨Nat.le_refl 0, Nat.le_refl 0⟩) (fun H locs I => ?_)
          refine lv_if_eq (tgt := 79) X.1 X.2.1 dX12_whyNot_72 (by decide) (fun c_11 => ?_) (fun c_11 => ?_)
          · skip
            have hE := ite_f hE (b2i_n c_11)
            have ho := ite_fP ho (b2i_n c_11)
            refine lv_iload_n X.1 X.2.1 dX12_whyNot_79 rfl (lv_at hl 0 rfl) ?_
            refine lv_if_eq (tgt := 87) X.1 X.2.1 dX12_whyNot_80 (by decide) (fun c_12 => ?_) (fun c_12 => ?_)
            · exact absurd c_12 (by decide)
            · skip
              refine lv_iconst (v := 4) X.1 X.2.1 dX12_whyNot_83 (by decide) ?_
              refine lv_goto (tgt := 88) X.1 X.2.1 dX12_whyNot_84 (by decide) ?_
              have h9 := hE
              exact r_iret X I (e_i (pr_fst h9) (pr_snd h9) rfl) dX12_whyNot_88
          · skip
            have hE := ite_t hE (b2i_y c_11)
            have ho := ite_tP ho (b2i_y c_11)
            refine lv_iconst (v := 2) X.1 X.2.1 dX12_whyNot_75 (by decide) ?_
            refine lv_goto (tgt := 88) X.1 X.2.1 dX12_whyNot_76 (by decide) ?_
            have h9 := hE
            exact r_iret X I (e_i (pr_fst h9) (pr_snd h9) rfl) dX12_whyNot_88
  · skip
    have hE := ite_f hE (b2i_n c_1)
    have ho := ite_fP ho (b2i_n c_1)
    refine lv_iconst (v := 0) X.1 X.2.1 dX12_whyNot_8 (by decide) ?_
    have h9 := hE
    exact r_iret X I (e_i (pr_fst h9) (pr_snd h9) rfl) dX12_whyNot_9
noncomputable def f12_easesNow (σ : SI) (x1 : Int32) : Int32 × SI := if (f12_isThankful σ x1) = true then ((0 : Int32), σ) else (let r0 := (f12_standsNow σ x1); ((if r0.1 < (σ 140 (Int32.toNatClampNeg ((0 : Int32) + x1))) then r0.1 else (σ 140 (Int32.toNatClampNeg ((0 : Int32) + x1)))), r0.2))
noncomputable def o12_easesNow (σ : SI) (x1 : Int32) : Prop := (o12_isThankful σ x1) ∧ (if (f12_isThankful σ x1) = true then True else ((vp_in ((0 : Int32) + x1) 255) ∧ ((o12_standsNow σ x1) ∧ (let r0 := (f12_standsNow σ x1); True))))
theorem w_f12_easesNow (σ : SI) (x1 : Int32) (a : Nat) (h0 : a ≠ 132) (h1 : a ≠ 133) : (f12_easesNow σ x1).2 a = σ a := by
  refine fp_to2 ?_
  unfold f12_easesNow
  exact (fr_ite2 (fr_mk21 rfl) (fr_mk21 (w_f12_standsNow _ _ a h0 h1)))
set_option maxHeartbeats 4000000 in
set_option maxRecDepth 100000 in
theorem c12_easesNow (l : Launch) (G : GT) (σ : SI) (τ : SL) (x1 : Int32) (ho : o12_easesNow σ x1) : Mc l yX12_easesNow cX12_easesNow 2 (some .int) 8 G [.ref (G.2.1 123), .int x1] σ τ (Qi G (Ei (f12_easesNow σ x1).1 (f12_easesNow σ x1).2 τ)) := by
  refine m_start (by decide +kernel) (Nat.le_of_ble_eq_true rfl) rfl (fun p e s m args below meth c ls X I hl => ?_)
  have hl : lv_has ls 2 [(0, .ref (G.2.1 123)), (1, .int x1)] := hl
  obtain ⟨E, hE⟩ : ∃ E, E = (f12_easesNow σ x1) := ⟨_, rfl⟩
  rw [← hE]
  unfold o12_easesNow at ho
  refine lv_aload_n X.1 X.2.1 dX12_easesNow_0 rfl (lv_at hl 0 rfl) ?_
  refine lv_iload_n X.1 X.2.1 dX12_easesNow_1 rfl (lv_at hl 1 rfl) ?_
  have ho1 := ho.1
  have ho := ho.2
  refine r_ei I (r_runV X I pk_X12_isThankful (c12_isThankful l G _ _ _ ho1) lm_X12_295 (by decide) (cl_12 rfl) rfl rfl rfl hl.1 rfl (Nat.le_of_ble_eq_true rfl) dX12_easesNow_2 ⟨Nat.le_of_ble_eq_true rfl, Nat.le_of_ble_eq_true rfl⟩ ⟨Nat.le_refl 0, Nat.le_refl 0⟩) (fun H locs I => ?_)
  refine lv_if_eq (tgt := 12) X.1 X.2.1 dX12_easesNow_5 (by decide) (fun c_1 => ?_) (fun c_1 => ?_)
  · skip
    have hE := ite_f hE (b2i_n c_1)
    have ho := ite_fP ho (b2i_n c_1)
    refine lv_aload_n X.1 X.2.1 dX12_easesNow_12 rfl (lv_at hl 0 rfl) ?_
    refine g12_27 X I (k := 123) (by decide) rfl lf_X12_58 dX12_easesNow_13 ?_
    refine lv_iconst (v := 0) X.1 X.2.1 dX12_easesNow_16 (by decide) ?_
    refine lv_iload_n X.1 X.2.1 dX12_easesNow_17 rfl (lv_at hl 1 rfl) ?_
    refine lv_iadd X.1 X.2.1 dX12_easesNow_18 ?_
    have ho2 := ho.1
    have ho := ho.2
    refine r_ald X I (k := 140) (n := 255) (by decide) rfl ho2 dX12_easesNow_19 ?_
    refine lv_aload_n X.1 X.2.1 dX12_easesNow_20 rfl (lv_at hl 0 rfl) ?_
    refine lv_iload_n X.1 X.2.1 dX12_easesNow_21 rfl (lv_at hl 1 rfl) ?_
    have ho3 := ho.1
    have ho := ho.2
    refine r_ei I (r_runV X I pk_X12_standsNow (c12_standsNow l G _ _ _ ho3) lm_X12_326 (by decide) (cl_12 rfl) rfl rfl rfl hl.1 rfl (Nat.le_of_ble_eq_true rfl) dX12_easesNow_22 ⟨Nat.le_of_ble_eq_true rfl, Nat.le_of_ble_eq_true rfl⟩ ⟨Nat.le_refl 0, Nat.le_refl 0⟩) (fun H locs I => ?_)
    refine r_mmin X hl.1 lm_X12_301 ls_J9_min_7cf53 ln_J9 lc_J9_min_7cf53 (Nat.le_of_ble_eq_true rfl) (Nat.le_of_ble_eq_true rfl) (Nat.le_refl 0) (Nat.le_refl 0) dX12_easesNow_25 ?_
    have h9 := hE
    exact r_iret X I (e_i (pr_fst h9) (pr_snd h9) rfl) dX12_easesNow_28
  · skip
    have hE := ite_t hE (b2i_y c_1)
    have ho := ite_tP ho (b2i_y c_1)
    refine lv_iconst (v := 0) X.1 X.2.1 dX12_easesNow_8 (by decide) ?_
    refine lv_goto (tgt := 28) X.1 X.2.1 dX12_easesNow_9 (by decide) ?_
    have h9 := hE
    exact r_iret X I (e_i (pr_fst h9) (pr_snd h9) rfl) dX12_easesNow_28
