noncomputable def f12_standsBy (σ : SI) (x1 : Int32) (x2 : Int32) (x3 : Int32) (x4 : Int32) (x5 : Int32) : Int32 × SI := if (f12_isThankful σ x1) = true then (if (σ 123 29) = (-1 : Int32) then ((if (0 : Int32) < (if (1 : Int32) < (60 : Int32) then (1 : Int32) else (60 : Int32)) then (if (1 : Int32) < (60 : Int32) then (1 : Int32) else (60 : Int32)) else (0 : Int32)), σ) else (let s7 := sp σ 132 0 x2; let s8 := sp s7 132 1 (f12_of s7 x1 (3 : Int32)); let s9 := sp s8 132 2 x3; let s10 := sp s9 132 3 x4; let s11 := sp s10 132 4 x5; let s12 := sp s11 132 5 (σ 140 12); let r13 := (f12_worthOf s12 (σ 123 29)); ((if (0 : Int32) < (if r13.1 < (60 : Int32) then r13.1 else (60 : Int32)) then (if r13.1 < (60 : Int32) then r13.1 else (60 : Int32)) else (0 : Int32)), r13.2))) else (if (σ 123 29) = (-1 : Int32) then ((if (0 : Int32) < (if ((x2 / (2 : Int32)) + (1 : Int32)) < (60 : Int32) then ((x2 / (2 : Int32)) + (1 : Int32)) else (60 : Int32)) then (if ((x2 / (2 : Int32)) + (1 : Int32)) < (60 : Int32) then ((x2 / (2 : Int32)) + (1 : Int32)) else (60 : Int32)) else (0 : Int32)), σ) else (let s0 := sp σ 132 0 x2; let s1 := sp s0 132 1 (f12_of s0 x1 (3 : Int32)); let s2 := sp s1 132 2 x3; let s3 := sp s2 132 3 x4; let s4 := sp s3 132 4 x5; let s5 := sp s4 132 5 (σ 140 12); let r6 := (f12_worthOf s5 (σ 123 29)); ((if (0 : Int32) < (if r6.1 < (60 : Int32) then r6.1 else (60 : Int32)) then (if r6.1 < (60 : Int32) then r6.1 else (60 : Int32)) else (0 : Int32)), r6.2)))
noncomputable def o12_standsBy (σ : SI) (x1 : Int32) (x2 : Int32) (x3 : Int32) (x4 : Int32) (x5 : Int32) : Prop := (o12_isThankful σ x1) ∧ (if (f12_isThankful σ x1) = true then (if (σ 123 29) = (-1 : Int32) then True else (let s7 := sp σ 132 0 x2; (o12_of s7 x1 (3 : Int32)) ∧ (let s8 := sp s7 132 1 (f12_of s7 x1 (3 : Int32)); let s9 := sp s8 132 2 x3; let s10 := sp s9 132 3 x4; let s11 := sp s10 132 4 x5; let s12 := sp s11 132 5 (σ 140 12); (o12_worthOf s12 (σ 123 29)) ∧ (let r13 := (f12_worthOf s12 (σ 123 29)); True)))) else (if (σ 123 29) = (-1 : Int32) then True else (let s0 := sp σ 132 0 x2; (o12_of s0 x1 (3 : Int32)) ∧ (let s1 := sp s0 132 1 (f12_of s0 x1 (3 : Int32)); let s2 := sp s1 132 2 x3; let s3 := sp s2 132 3 x4; let s4 := sp s3 132 4 x5; let s5 := sp s4 132 5 (σ 140 12); (o12_worthOf s5 (σ 123 29)) ∧ (let r6 := (f12_worthOf s5 (σ 123 29)); True)))))
theorem w_f12_standsBy (σ : SI) (x1 : Int32) (x2 : Int32) (x3 : Int32) (x4 : Int32) (x5 : Int32) (a : Nat) (h0 : a ≠ 132) (h1 : a ≠ 133) : (f12_standsBy σ x1 x2 x3 x4 x5).2 a = σ a := by
  refine fp_to2 ?_
  unfold f12_standsBy
  exact (fr_ite2 (fr_ite2 (fr_mk21 rfl) (fr_mk21 ((w_f12_worthOf _ _ a h1).trans ((sp_n h0).trans ((sp_n h0).trans ((sp_n h0).trans ((sp_n h0).trans ((sp_n h0).trans (sp_n h0))))))))) (fr_ite2 (fr_mk21 rfl) (fr_mk21 ((w_f12_worthOf _ _ a h1).trans ((sp_n h0).trans ((sp_n h0).trans ((sp_n h0).trans ((sp_n h0).trans ((sp_n h0).trans (sp_n h0))))))))))
set_option maxHeartbeats 4000000 in
set_option maxRecDepth 100000 in
theorem c12_standsBy (l : Launch) (G : GT) (σ : SI) (τ : SL) (x1 : Int32) (x2 : Int32) (x3 : Int32) (x4 : Int32) (x5 : Int32) (ho : o12_standsBy σ x1 x2 x3 x4 x5) : Mc l yX12_standsBy cX12_standsBy 7 (some .int) 5 G [.ref (G.2.1 123), .int x1, .int x2, .int x3, .int x4, .int x5] σ τ (Qi G (Ei (f12_standsBy σ x1 x2 x3 x4 x5).1 (f12_standsBy σ x1 x2 x3 x4 x5).2 τ)) := by
  refine m_start (by decide +kernel) (Nat.le_of_ble_eq_true rfl) rfl (fun p e s m args below meth c ls X I hl => ?_)
  have hl : lv_has ls 7 [(0, .ref (G.2.1 123)), (1, .int x1), (2, .int x2), (3, .int x3), (4, .int x4), (5, .int x5)] := hl
  obtain ⟨E, hE⟩ : ∃ E, E = (f12_standsBy σ x1 x2 x3 x4 x5) := ⟨_, rfl⟩
  rw [← hE]
  unfold o12_standsBy at ho
  refine lv_aload_n X.1 X.2.1 dX12_standsBy_0 rfl (lv_at hl 0 rfl) ?_
  refine lv_iload_n X.1 X.2.1 dX12_standsBy_1 rfl (lv_at hl 1 rfl) ?_
  have ho1 := ho.1
  have ho := ho.2
  refine r_ei I (r_runV X I pk_X12_isThankful (c12_isThankful l G _ _ _ ho1) lm_X12_295 (by decide) (cl_12 rfl) rfl rfl rfl hl.1 rfl (Nat.le_of_ble_eq_true rfl) dX12_standsBy_2 ⟨Nat.le_of_ble_eq_true rfl, Nat.le_of_ble_eq_true rfl⟩ ⟨Nat.le_refl 0, Nat.le_refl 0⟩) (fun H locs I => ?_)
  refine lv_if_eq (tgt := 12) X.1 X.2.1 dX12_standsBy_5 (by decide) (fun c_1 => ?_) (fun c_1 => ?_)
  · skip
    have hE := ite_f hE (b2i_n c_1)
    have ho := ite_fP ho (b2i_n c_1)
    refine lv_iload_n X.1 X.2.1 dX12_standsBy_12 rfl (lv_at hl 2 rfl) ?_
    refine lv_iconst (v := 2) X.1 X.2.1 dX12_standsBy_13 (by decide) ?_
    refine lv_idiv X.1 X.2.1 dX12_standsBy_14 (by decide) ?_
    refine lv_iconst (v := 1) X.1 X.2.1 dX12_standsBy_15 (by decide) ?_
    refine lv_iadd X.1 X.2.1 dX12_standsBy_16 ?_
    refine lv_istore (lv' := [(6, .int _), (0, .ref _), (1, .int _), (2, .int _), (3, .int _), (4, .int _), (5, .int _)]) X.1 X.2.1 dX12_standsBy_17 hl (by decide) rfl (fun ls hl => ?_)
    refine lv_aload_n X.1 X.2.1 dX12_standsBy_19 rfl (lv_at hl 1 rfl) ?_
    refine g12_29 X I (k := 123) (by decide) rfl lf_X12_64 dX12_standsBy_20 ?_
    refine lv_iconst (v := (-1)) X.1 X.2.1 dX12_standsBy_23 (by decide) ?_
    refine lv_icmp_eq (tgt := 92) X.1 X.2.1 dX12_standsBy_24 (by decide) (fun c_2 => ?_) (fun c_2 => ?_)
    · skip
      have hE := ite_t hE c_2
      have ho := ite_tP ho c_2
      refine lv_iconst (v := 0) X.1 X.2.1 dX12_standsBy_92 (by decide) ?_
      refine lv_bipush (v := 60) X.1 X.2.1 dX12_standsBy_93 (by decide) ?_
      refine lv_iload X.1 X.2.1 dX12_standsBy_95 (lv_at hl 0 rfl) ?_
      refine r_mmin X hl.1 lm_X12_301 ls_J9_min_7cf53 ln_J9 lc_J9_min_7cf53 (Nat.le_of_ble_eq_true rfl) (Nat.le_of_ble_eq_true rfl) (Nat.le_refl 0) (Nat.le_refl 0) dX12_standsBy_97 ?_
      refine r_mmax X hl.1 lm_X12_303 ls_J9_max_7cf53 ln_J9 lc_J9_max_7cf53 (Nat.le_of_ble_eq_true rfl) (Nat.le_of_ble_eq_true rfl) (Nat.le_refl 0) (Nat.le_refl 0) dX12_standsBy_100 ?_
      have h9 := hE
      exact r_iret X I (e_i (pr_fst h9) (pr_snd h9) rfl) dX12_standsBy_103
    · skip
      have hE := ite_f hE c_2
      have ho := ite_fP ho c_2
      refine lv_aload_n X.1 X.2.1 dX12_standsBy_27 rfl (lv_at hl 1 rfl) ?_
      refine g12_15 X I (k := 123) (by decide) rfl lf_X12_34 dX12_standsBy_28 ?_
      refine lv_iconst (v := 0) X.1 X.2.1 dX12_standsBy_31 (by decide) ?_
      refine lv_iload_n X.1 X.2.1 dX12_standsBy_32 rfl (lv_at hl 3 rfl) ?_
      refine r_ast X I (k := 132) (n := 6) (by decide) rfl (by unfold vp_in; decide) dX12_standsBy_33 (fun H locs I => ?_)
      refine lv_aload_n X.1 X.2.1 dX12_standsBy_34 rfl (lv_at hl 1 rfl) ?_
      refine g12_15 X I (k := 123) (by decide) rfl lf_X12_34 dX12_standsBy_35 ?_
      refine lv_iconst (v := 1) X.1 X.2.1 dX12_standsBy_38 (by decide) ?_
      refine lv_aload_n X.1 X.2.1 dX12_standsBy_39 rfl (lv_at hl 1 rfl) ?_
      refine lv_iload_n X.1 X.2.1 dX12_standsBy_40 rfl (lv_at hl 2 rfl) ?_
      refine lv_iconst (v := 3) X.1 X.2.1 dX12_standsBy_41 (by decide) ?_
      have ho2 := ho.1
      have ho := ho.2
      refine r_ei I (r_runV X I pk_X12_of (c12_of l G _ _ _ _ ho2) lm_X12_270 (by decide) (cl_12 rfl) rfl rfl rfl hl.1 rfl (Nat.le_of_ble_eq_true rfl) dX12_standsBy_42 ⟨Nat.le_of_ble_eq_true rfl, Nat.le_of_ble_eq_true rfl⟩ ⟨Nat.le_refl 0, Nat.le_refl 0⟩) (fun H locs I => ?_)
      refine r_ast X I (k := 132) (n := 6) (by decide) rfl (by unfold vp_in; decide) dX12_standsBy_45 (fun H locs I => ?_)
      refine lv_aload_n X.1 X.2.1 dX12_standsBy_46 rfl (lv_at hl 1 rfl) ?_
      refine g12_15 X I (k := 123) (by decide) rfl lf_X12_34 dX12_standsBy_47 ?_
      refine lv_iconst (v := 2) X.1 X.2.1 dX12_standsBy_50 (by decide) ?_
      refine lv_iload_n X.1 X.2.1 dX12_standsBy_51 rfl (lv_at hl 4 rfl) ?_
      refine r_ast X I (k := 132) (n := 6) (by decide) rfl (by unfold vp_in; decide) dX12_standsBy_52 (fun H locs I => ?_)
      refine lv_aload_n X.1 X.2.1 dX12_standsBy_53 rfl (lv_at hl 1 rfl) ?_
      refine g12_15 X I (k := 123) (by decide) rfl lf_X12_34 dX12_standsBy_54 ?_
      refine lv_iconst (v := 3) X.1 X.2.1 dX12_standsBy_57 (by decide) ?_
      refine lv_iload X.1 X.2.1 dX12_standsBy_58 (lv_at hl 5 rfl) ?_
      refine r_ast X I (k := 132) (n := 6) (by decide) rfl (by unfold vp_in; decide) dX12_standsBy_60 (fun H locs I => ?_)
      refine lv_aload_n X.1 X.2.1 dX12_standsBy_61 rfl (lv_at hl 1 rfl) ?_
      refine g12_15 X I (k := 123) (by decide) rfl lf_X12_34 dX12_standsBy_62 ?_
      refine lv_iconst (v := 4) X.1 X.2.1 dX12_standsBy_65 (by decide) ?_
      refine lv_iload X.1 X.2.1 dX12_standsBy_66 (lv_at hl 6 rfl) ?_
      refine r_ast X I (k := 132) (n := 6) (by decide) rfl (by unfold vp_in; decide) dX12_standsBy_68 (fun H locs I => ?_)
      refine lv_aload_n X.1 X.2.1 dX12_standsBy_69 rfl (lv_at hl 1 rfl) ?_
      refine g12_15 X I (k := 123) (by decide) rfl lf_X12_34 dX12_standsBy_70 ?_
      refine lv_iconst (v := 5) X.1 X.2.1 dX12_standsBy_73 (by decide) ?_
      refine lv_aload_n X.1 X.2.1 dX12_standsBy_74 rfl (lv_at hl 1 rfl) ?_
      refine g12_27 X I (k := 123) (by decide) rfl lf_X12_58 dX12_standsBy_75 ?_
      refine lv_bipush (v := 12) X.1 X.2.1 dX12_standsBy_78 (by decide) ?_
      refine r_ald X I (k := 140) (n := 255) (by decide) rfl (by unfold vp_in; decide) dX12_standsBy_80 ?_
      refine r_ast X I (k := 132) (n := 6) (by decide) rfl (by unfold vp_in; decide) dX12_standsBy_81 (fun H locs I => ?_)
      refine lv_aload_n X.1 X.2.1 dX12_standsBy_82 rfl (lv_at hl 1 rfl) ?_
      refine lv_aload_n X.1 X.2.1 dX12_standsBy_83 rfl (lv_at hl 1 rfl) ?_
      refine g12_29 X I (k := 123) (by decide) rfl lf_X12_64 dX12_standsBy_84 ?_
      have ho3 := ho.1
      have ho := ho.2
      refine r_ei I (r_runV X I pk_X12_worthOf (c12_worthOf l G _ _ _ ho3) lm_X12_298 (by decide) (cl_12 rfl) rfl rfl rfl hl.1 rfl (Nat.le_of_ble_eq_true rfl) dX12_standsBy_87 ⟨Nat.le_of_ble_eq_true rfl, Nat.le_of_ble_eq_true rfl⟩ ⟨Nat.le_refl 0, Nat.le_refl 0⟩) (fun H locs I => ?_)
      refine lv_istore (lv' := [(6, .int _), (0, .ref _), (1, .int _), (2, .int _), (3, .int _), (4, .int _), (5, .int _)]) X.1 X.2.1 dX12_standsBy_90 hl (by decide) rfl (fun ls hl => ?_)
      refine lv_iconst (v := 0) X.1 X.2.1 dX12_standsBy_92 (by decide) ?_
      refine lv_bipush (v := 60) X.1 X.2.1 dX12_standsBy_93 (by decide) ?_
      refine lv_iload X.1 X.2.1 dX12_standsBy_95 (lv_at hl 0 rfl) ?_
      refine r_mmin X hl.1 lm_X12_301 ls_J9_min_7cf53 ln_J9 lc_J9_min_7cf53 (Nat.le_of_ble_eq_true rfl) (Nat.le_of_ble_eq_true rfl) (Nat.le_refl 0) (Nat.le_refl 0) dX12_standsBy_97 ?_
      refine r_mmax X hl.1 lm_X12_303 ls_J9_max_7cf53 ln_J9 lc_J9_max_7cf53 (Nat.le_of_ble_eq_true rfl) (Nat.le_of_ble_eq_true rfl) (Nat.le_refl 0) (Nat.le_refl 0) dX12_standsBy_100 ?_
      have h9 := hE
      exact r_iret X I (e_i (pr_fst h9) (pr_snd h9) rfl) dX12_standsBy_103
  · skip
    have hE := ite_t hE (b2i_y c_1)
    have ho := ite_tP ho (b2i_y c_1)
    refine lv_iconst (v := 1) X.1 X.2.1 dX12_standsBy_8 (by decide) ?_
    refine lv_goto (tgt := 17) X.1 X.2.1 dX12_standsBy_9 (by decide) ?_
    refine lv_istore (lv' := [(6, .int _), (0, .ref _), (1, .int _), (2, .int _), (3, .int _), (4, .int _), (5, .int _)]) X.1 X.2.1 dX12_standsBy_17 hl (by decide) rfl (fun ls hl => ?_)
    refine lv_aload_n X.1 X.2.1 dX12_standsBy_19 rfl (lv_at hl 1 rfl) ?_
    refine g12_29 X I (k := 123) (by decide) rfl lf_X12_64 dX12_standsBy_20 ?_
    refine lv_iconst (v := (-1)) X.1 X.2.1 dX12_standsBy_23 (by decide) ?_
    refine lv_icmp_eq (tgt := 92) X.1 X.2.1 dX12_standsBy_24 (by decide) (fun c_3 => ?_) (fun c_3 => ?_)
    · skip
      have hE := ite_t hE c_3
      have ho := ite_tP ho c_3
      refine lv_iconst (v := 0) X.1 X.2.1 dX12_standsBy_92 (by decide) ?_
      refine lv_bipush (v := 60) X.1 X.2.1 dX12_standsBy_93 (by decide) ?_
      refine lv_iload X.1 X.2.1 dX12_standsBy_95 (lv_at hl 0 rfl) ?_
      refine r_mmin X hl.1 lm_X12_301 ls_J9_min_7cf53 ln_J9 lc_J9_min_7cf53 (Nat.le_of_ble_eq_true rfl) (Nat.le_of_ble_eq_true rfl) (Nat.le_refl 0) (Nat.le_refl 0) dX12_standsBy_97 ?_
      refine r_mmax X hl.1 lm_X12_303 ls_J9_max_7cf53 ln_J9 lc_J9_max_7cf53 (Nat.le_of_ble_eq_true rfl) (Nat.le_of_ble_eq_true rfl) (Nat.le_refl 0) (Nat.le_refl 0) dX12_standsBy_100 ?_
      have h9 := hE
      exact r_iret X I (e_i (pr_fst h9) (pr_snd h9) rfl) dX12_standsBy_103
    · skip
      have hE := ite_f hE c_3
      have ho := ite_fP ho c_3
      refine lv_aload_n X.1 X.2.1 dX12_standsBy_27 rfl (lv_at hl 1 rfl) ?_
      refine g12_15 X I (k := 123) (by decide) rfl lf_X12_34 dX12_standsBy_28 ?_
      refine lv_iconst (v := 0) X.1 X.2.1 dX12_standsBy_31 (by decide) ?_
      refine lv_iload_n X.1 X.2.1 dX12_standsBy_32 rfl (lv_at hl 3 rfl) ?_
      refine r_ast X I (k := 132) (n := 6) (by decide) rfl (by unfold vp_in; decide) dX12_standsBy_33 (fun H locs I => ?_)
      refine lv_aload_n X.1 X.2.1 dX12_standsBy_34 rfl (lv_at hl 1 rfl) ?_
      refine g12_15 X I (k := 123) (by decide) rfl lf_X12_34 dX12_standsBy_35 ?_
      refine lv_iconst (v := 1) X.1 X.2.1 dX12_standsBy_38 (by decide) ?_
      refine lv_aload_n X.1 X.2.1 dX12_standsBy_39 rfl (lv_at hl 1 rfl) ?_
      refine lv_iload_n X.1 X.2.1 dX12_standsBy_40 rfl (lv_at hl 2 rfl) ?_
      refine lv_iconst (v := 3) X.1 X.2.1 dX12_standsBy_41 (by decide) ?_
      have ho4 := ho.1
      have ho := ho.2
      refine r_ei I (r_runV X I pk_X12_of (c12_of l G _ _ _ _ ho4) lm_X12_270 (by decide) (cl_12 rfl) rfl rfl rfl hl.1 rfl (Nat.le_of_ble_eq_true rfl) dX12_standsBy_42 ⟨Nat.le_of_ble_eq_true rfl, Nat.le_of_ble_eq_true rfl⟩ ⟨Nat.le_refl 0, Nat.le_refl 0⟩) (fun H locs I => ?_)
      refine r_ast X I (k := 132) (n := 6) (by decide) rfl (by unfold vp_in; decide) dX12_standsBy_45 (fun H locs I => ?_)
      refine lv_aload_n X.1 X.2.1 dX12_standsBy_46 rfl (lv_at hl 1 rfl) ?_
      refine g12_15 X I (k := 123) (by decide) rfl lf_X12_34 dX12_standsBy_47 ?_
      refine lv_iconst (v := 2) X.1 X.2.1 dX12_standsBy_50 (by decide) ?_
      refine lv_iload_n X.1 X.2.1 dX12_standsBy_51 rfl (lv_at hl 4 rfl) ?_
      refine r_ast X I (k := 132) (n := 6) (by decide) rfl (by unfold vp_in; decide) dX12_standsBy_52 (fun H locs I => ?_)
      refine lv_aload_n X.1 X.2.1 dX12_standsBy_53 rfl (lv_at hl 1 rfl) ?_
      refine g12_15 X I (k := 123) (by decide) rfl lf_X12_34 dX12_standsBy_54 ?_
      refine lv_iconst (v := 3) X.1 X.2.1 dX12_standsBy_57 (by decide) ?_
      refine lv_iload X.1 X.2.1 dX12_standsBy_58 (lv_at hl 5 rfl) ?_
      refine r_ast X I (k := 132) (n := 6) (by decide) rfl (by unfold vp_in; decide) dX12_standsBy_60 (fun H locs I => ?_)
      refine lv_aload_n X.1 X.2.1 dX12_standsBy_61 rfl (lv_at hl 1 rfl) ?_
      refine g12_15 X I (k := 123) (by decide) rfl lf_X12_34 dX12_standsBy_62 ?_
      refine lv_iconst (v := 4) X.1 X.2.1 dX12_standsBy_65 (by decide) ?_
      refine lv_iload X.1 X.2.1 dX12_standsBy_66 (lv_at hl 6 rfl) ?_
      refine r_ast X I (k := 132) (n := 6) (by decide) rfl (by unfold vp_in; decide) dX12_standsBy_68 (fun H locs I => ?_)
      refine lv_aload_n X.1 X.2.1 dX12_standsBy_69 rfl (lv_at hl 1 rfl) ?_
      refine g12_15 X I (k := 123) (by decide) rfl lf_X12_34 dX12_standsBy_70 ?_
      refine lv_iconst (v := 5) X.1 X.2.1 dX12_standsBy_73 (by decide) ?_
      refine lv_aload_n X.1 X.2.1 dX12_standsBy_74 rfl (lv_at hl 1 rfl) ?_
      refine g12_27 X I (k := 123) (by decide) rfl lf_X12_58 dX12_standsBy_75 ?_
      refine lv_bipush (v := 12) X.1 X.2.1 dX12_standsBy_78 (by decide) ?_
      refine r_ald X I (k := 140) (n := 255) (by decide) rfl (by unfold vp_in; decide) dX12_standsBy_80 ?_
      refine r_ast X I (k := 132) (n := 6) (by decide) rfl (by unfold vp_in; decide) dX12_standsBy_81 (fun H locs I => ?_)
      refine lv_aload_n X.1 X.2.1 dX12_standsBy_82 rfl (lv_at hl 1 rfl) ?_
      refine lv_aload_n X.1 X.2.1 dX12_standsBy_83 rfl (lv_at hl 1 rfl) ?_
      refine g12_29 X I (k := 123) (by decide) rfl lf_X12_64 dX12_standsBy_84 ?_
      have ho5 := ho.1
      have ho := ho.2
      refine r_ei I (r_runV X I pk_X12_worthOf (c12_worthOf l G _ _ _ ho5) lm_X12_298 (by decide) (cl_12 rfl) rfl rfl rfl hl.1 rfl (Nat.le_of_ble_eq_true rfl) dX12_standsBy_87 ⟨Nat.le_of_ble_eq_true rfl, Nat.le_of_ble_eq_true rfl⟩ ⟨Nat.le_refl 0, Nat.le_refl 0⟩) (fun H locs I => ?_)
      refine lv_istore (lv' := [(6, .int _), (0, .ref _), (1, .int _), (2, .int _), (3, .int _), (4, .int _), (5, .int _)]) X.1 X.2.1 dX12_standsBy_90 hl (by decide) rfl (fun ls hl => ?_)
      refine lv_iconst (v := 0) X.1 X.2.1 dX12_standsBy_92 (by decide) ?_
      refine lv_bipush (v := 60) X.1 X.2.1 dX12_standsBy_93 (by decide) ?_
      refine lv_iload X.1 X.2.1 dX12_standsBy_95 (lv_at hl 0 rfl) ?_
      refine r_mmin X hl.1 lm_X12_301 ls_J9_min_7cf53 ln_J9 lc_J9_min_7cf53 (Nat.le_of_ble_eq_true rfl) (Nat.le_of_ble_eq_true rfl) (Nat.le_refl 0) (Nat.le_refl 0) dX12_standsBy_97 ?_
      refine r_mmax X hl.1 lm_X12_303 ls_J9_max_7cf53 ln_J9 lc_J9_max_7cf53 (Nat.le_of_ble_eq_true rfl) (Nat.le_of_ble_eq_true rfl) (Nat.le_refl 0) (Nat.le_refl 0) dX12_standsBy_100 ?_
      have h9 := hE
      exact r_iret X I (e_i (pr_fst h9) (pr_snd h9) rfl) dX12_standsBy_103
noncomputable def f12_stepsNow (σ : SI) (x1 : Int32) : Int32 := (f12_stepsTo σ (σ 140 10) x1)
noncomputable def o12_stepsNow (σ : SI) (x1 : Int32) : Prop := (o12_stepsTo σ (σ 140 10) x1) ∧ True
set_option maxHeartbeats 4000000 in
set_option maxRecDepth 100000 in
theorem c12_stepsNow (l : Launch) (G : GT) (σ : SI) (τ : SL) (x1 : Int32) (ho : o12_stepsNow σ x1) : Mc l yX12_stepsNow cX12_stepsNow 2 (some .int) 2 G [.ref (G.2.1 123), .int x1] σ τ (Qi G (Ei (f12_stepsNow σ x1) σ τ)) := by
  refine m_start (by decide +kernel) (Nat.le_of_ble_eq_true rfl) rfl (fun p e s m args below meth c ls X I hl => ?_)
  have hl : lv_has ls 2 [(0, .ref (G.2.1 123)), (1, .int x1)] := hl
  obtain ⟨E, hE⟩ : ∃ E, E = (f12_stepsNow σ x1) := ⟨_, rfl⟩
  rw [← hE]
  unfold o12_stepsNow at ho
  refine lv_aload_n X.1 X.2.1 dX12_stepsNow_0 rfl (lv_at hl 0 rfl) ?_
  refine lv_aload_n X.1 X.2.1 dX12_stepsNow_1 rfl (lv_at hl 0 rfl) ?_
  refine g12_27 X I (k := 123) (by decide) rfl lf_X12_58 dX12_stepsNow_2 ?_
  refine lv_bipush (v := 10) X.1 X.2.1 dX12_stepsNow_5 (by decide) ?_
  refine r_ald X I (k := 140) (n := 255) (by decide) rfl (by unfold vp_in; decide) dX12_stepsNow_7 ?_
  refine lv_iload_n X.1 X.2.1 dX12_stepsNow_8 rfl (lv_at hl 1 rfl) ?_
  have ho1 := ho.1
  have ho := ho.2
  refine r_ei I (r_runV X I pk_X12_stepsTo (c12_stepsTo l G _ _ _ _ ho1) lm_X12_305 (by decide) (cl_12 rfl) rfl rfl rfl hl.1 rfl (Nat.le_of_ble_eq_true rfl) dX12_stepsNow_9 ⟨Nat.le_of_ble_eq_true rfl, Nat.le_of_ble_eq_true rfl⟩ ⟨Nat.le_refl 0, Nat.le_refl 0⟩) (fun H locs I => ?_)
  have h9 := hE
  exact r_iret X I (e_i h9.symm rfl rfl) dX12_stepsNow_12
noncomputable def f12_doors (σ : SI) : Int32 := (fbitCount (σ 140 11))
set_option maxHeartbeats 4000000 in
set_option maxRecDepth 100000 in
theorem c12_doors (l : Launch) (G : GT) (σ : SI) (τ : SL) : Mc l yX12_doors cX12_doors 1 (some .int) 1 G [.ref (G.2.1 123)] σ τ (Qi G (Ei (f12_doors σ) σ τ)) := by
  refine m_start (by decide +kernel) (Nat.le_of_ble_eq_true rfl) rfl (fun p e s m args below meth c ls X I hl => ?_)
  have hl : lv_has ls 1 [(0, .ref (G.2.1 123))] := hl
  obtain ⟨E, hE⟩ : ∃ E, E = (f12_doors σ) := ⟨_, rfl⟩
  rw [← hE]
  refine lv_aload_n X.1 X.2.1 dX12_doors_0 rfl (lv_at hl 0 rfl) ?_
  refine g12_27 X I (k := 123) (by decide) rfl lf_X12_58 dX12_doors_1 ?_
  refine lv_bipush (v := 11) X.1 X.2.1 dX12_doors_4 (by decide) ?_
  refine r_ald X I (k := 140) (n := 255) (by decide) rfl (by unfold vp_in; decide) dX12_doors_6 ?_
  refine r_ei I (r_runS X I pk_J6_bitCount_0f7a4 (cbitCount l G _ _ _) lm_X12_308 rfl hl.1 rfl (Nat.le_of_ble_eq_true rfl) dX12_doors_7 ⟨Nat.le_of_ble_eq_true rfl, Nat.le_of_ble_eq_true rfl⟩ ⟨Nat.le_refl 0, Nat.le_refl 0⟩) (fun H locs I => ?_)
  have h9 := hE
  exact r_iret X I (e_i h9.symm rfl rfl) dX12_doors_10
noncomputable def f12_standsIf (σ : SI) (x1 : Int32) (x2 : Int32) (x3 : Int32) : Int32 × SI := let r0 := (f12_standsBy σ x1 x2 (((σ 140 8) + (f12_stepsNow σ x1)) + x3) (f12_doors σ) (f12_stepsNow σ x1)); r0
noncomputable def o12_standsIf (σ : SI) (x1 : Int32) (x2 : Int32) (x3 : Int32) : Prop := (o12_stepsNow σ x1) ∧ ((o12_stepsNow σ x1) ∧ ((o12_standsBy σ x1 x2 (((σ 140 8) + (f12_stepsNow σ x1)) + x3) (f12_doors σ) (f12_stepsNow σ x1)) ∧ (let r0 := (f12_standsBy σ x1 x2 (((σ 140 8) + (f12_stepsNow σ x1)) + x3) (f12_doors σ) (f12_stepsNow σ x1)); True)))
theorem w_f12_standsIf (σ : SI) (x1 : Int32) (x2 : Int32) (x3 : Int32) (a : Nat) (h0 : a ≠ 132) (h1 : a ≠ 133) : (f12_standsIf σ x1 x2 x3).2 a = σ a := by
  refine fp_to2 ?_
  unfold f12_standsIf
  exact (w_f12_standsBy _ _ _ _ _ _ a h0 h1)
set_option maxHeartbeats 4000000 in
set_option maxRecDepth 100000 in
theorem c12_standsIf (l : Launch) (G : GT) (σ : SI) (τ : SL) (x1 : Int32) (x2 : Int32) (x3 : Int32) (ho : o12_standsIf σ x1 x2 x3) : Mc l yX12_standsIf cX12_standsIf 4 (some .int) 6 G [.ref (G.2.1 123), .int x1, .int x2, .int x3] σ τ (Qi G (Ei (f12_standsIf σ x1 x2 x3).1 (f12_standsIf σ x1 x2 x3).2 τ)) := by
  refine m_start (by decide +kernel) (Nat.le_of_ble_eq_true rfl) rfl (fun p e s m args below meth c ls X I hl => ?_)
  have hl : lv_has ls 4 [(0, .ref (G.2.1 123)), (1, .int x1), (2, .int x2), (3, .int x3)] := hl
  obtain ⟨E, hE⟩ : ∃ E, E = (f12_standsIf σ x1 x2 x3) := ⟨_, rfl⟩
  rw [← hE]
  unfold o12_standsIf at ho
  refine lv_aload_n X.1 X.2.1 dX12_standsIf_0 rfl (lv_at hl 0 rfl) ?_
  refine lv_iload_n X.1 X.2.1 dX12_standsIf_1 rfl (lv_at hl 1 rfl) ?_
  refine lv_iload_n X.1 X.2.1 dX12_standsIf_2 rfl (lv_at hl 2 rfl) ?_
  refine lv_aload_n X.1 X.2.1 dX12_standsIf_3 rfl (lv_at hl 0 rfl) ?_
  refine g12_27 X I (k := 123) (by decide) rfl lf_X12_58 dX12_standsIf_4 ?_
  refine lv_bipush (v := 8) X.1 X.2.1 dX12_standsIf_7 (by decide) ?_
  refine r_ald X I (k := 140) (n := 255) (by decide) rfl (by unfold vp_in; decide) dX12_standsIf_9 ?_
  refine lv_aload_n X.1 X.2.1 dX12_standsIf_10 rfl (lv_at hl 0 rfl) ?_
  refine lv_iload_n X.1 X.2.1 dX12_standsIf_11 rfl (lv_at hl 1 rfl) ?_
  have ho1 := ho.1
  have ho := ho.2
  refine r_ei I (r_runV X I pk_X12_stepsNow (c12_stepsNow l G _ _ _ ho1) lm_X12_313 (by decide) (cl_12 rfl) rfl rfl rfl hl.1 rfl (Nat.le_of_ble_eq_true rfl) dX12_standsIf_12 ⟨Nat.le_of_ble_eq_true rfl, Nat.le_of_ble_eq_true rfl⟩ ⟨Nat.le_refl 0, Nat.le_refl 0⟩) (fun H locs I => ?_)
  refine lv_iadd X.1 X.2.1 dX12_standsIf_15 ?_
  refine lv_iload_n X.1 X.2.1 dX12_standsIf_16 rfl (lv_at hl 3 rfl) ?_
  refine lv_iadd X.1 X.2.1 dX12_standsIf_17 ?_
  refine lv_aload_n X.1 X.2.1 dX12_standsIf_18 rfl (lv_at hl 0 rfl) ?_
  refine r_ei I (r_runV X I pk_X12_doors (c12_doors l G _ _) lm_X12_316 (by decide) (cl_12 rfl) rfl rfl rfl hl.1 rfl (Nat.le_of_ble_eq_true rfl) dX12_standsIf_19 ⟨Nat.le_of_ble_eq_true rfl, Nat.le_of_ble_eq_true rfl⟩ ⟨Nat.le_refl 0, Nat.le_refl 0⟩) (fun H locs I => ?_)
  refine lv_aload_n X.1 X.2.1 dX12_standsIf_22 rfl (lv_at hl 0 rfl) ?_
  refine lv_iload_n X.1 X.2.1 dX12_standsIf_23 rfl (lv_at hl 1 rfl) ?_
  have ho2 := ho.1
  have ho := ho.2
  refine r_ei I (r_runV X I pk_X12_stepsNow (c12_stepsNow l G _ _ _ ho2) lm_X12_313 (by decide) (cl_12 rfl) rfl rfl rfl hl.1 rfl (Nat.le_of_ble_eq_true rfl) dX12_standsIf_24 ⟨Nat.le_of_ble_eq_true rfl, Nat.le_of_ble_eq_true rfl⟩ ⟨Nat.le_refl 0, Nat.le_refl 0⟩) (fun H locs I => ?_)
  have ho3 := ho.1
  have ho := ho.2
  refine r_ei I (r_runV X I pk_X12_standsBy (c12_standsBy l G _ _ _ _ _ _ _ ho3) lm_X12_319 (by decide) (cl_12 rfl) rfl rfl rfl hl.1 rfl (Nat.le_of_ble_eq_true rfl) dX12_standsIf_27 ⟨Nat.le_of_ble_eq_true rfl, Nat.le_of_ble_eq_true rfl⟩ ⟨Nat.le_refl 0, Nat.le_refl 0⟩) (fun H locs I => ?_)
  have h9 := hE
  exact r_iret X I (e_i (congrArg Prod.fst h9).symm (congrArg Prod.snd h9).symm rfl) dX12_standsIf_30
