noncomputable def f12_open (σ : SI) (x1 : Int32) : SI := let s0 := sp σ 123 14 x1; let s1 := sp s0 123 3 (0 : Int32); let s2 := sp s1 123 4 (-1 : Int32); let s3 := sp s2 123 5 (0 : Int32); let s4 := sp s3 127 (Int32.toNatClampNeg x1) (0 : Int32); let s5 := sp s4 128 (Int32.toNatClampNeg x1) (0 : Int32); s5
noncomputable def o12_open (σ : SI) (x1 : Int32) : Prop := let s0 := sp σ 123 14 x1; let s1 := sp s0 123 3 (0 : Int32); let s2 := sp s1 123 4 (-1 : Int32); let s3 := sp s2 123 5 (0 : Int32); (vp_in x1 5) ∧ (let s4 := sp s3 127 (Int32.toNatClampNeg x1) (0 : Int32); (vp_in x1 5) ∧ (let s5 := sp s4 128 (Int32.toNatClampNeg x1) (0 : Int32); True))
theorem w_f12_open (σ : SI) (x1 : Int32) (a : Nat) (h0 : a ≠ 123) (h1 : a ≠ 127) (h2 : a ≠ 128) : (f12_open σ x1) a = σ a := by
  unfold f12_open
  exact ((sp_n h2).trans ((sp_n h1).trans ((sp_n h0).trans ((sp_n h0).trans ((sp_n h0).trans (sp_n h0))))))
set_option maxHeartbeats 4000000 in
set_option maxRecDepth 100000 in
theorem c12_open (l : Launch) (G : GT) (σ : SI) (τ : SL) (x1 : Int32) (ho : o12_open σ x1) : Mc l yX12_open cX12_open 2 none 0 G [.ref (G.2.1 123), .int x1] σ τ (Qv G (Ev (f12_open σ x1) τ)) := by
  refine m_start (by decide +kernel) (Nat.le_of_ble_eq_true rfl) rfl (fun p e s m args below meth c ls X I hl => ?_)
  have hl : lv_has ls 2 [(0, .ref (G.2.1 123)), (1, .int x1)] := hl
  obtain ⟨E, hE⟩ : ∃ E, E = (f12_open σ x1) := ⟨_, rfl⟩
  rw [← hE]
  unfold o12_open at ho
  refine lv_aload_n X.1 X.2.1 dX12_open_0 rfl (lv_at hl 0 rfl) ?_
  refine lv_iload_n X.1 X.2.1 dX12_open_1 rfl (lv_at hl 1 rfl) ?_
  refine p12_14 X I (k := 123) (by decide) rfl lf_X12_125 dX12_open_2 (fun H locs I => ?_)
  refine lv_aload_n X.1 X.2.1 dX12_open_5 rfl (lv_at hl 0 rfl) ?_
  refine lv_iconst (v := 0) X.1 X.2.1 dX12_open_6 (by decide) ?_
  refine p12_3 X I (k := 123) (by decide) rfl lf_X12_115 dX12_open_7 (fun H locs I => ?_)
  refine lv_aload_n X.1 X.2.1 dX12_open_10 rfl (lv_at hl 0 rfl) ?_
  refine lv_iconst (v := (-1)) X.1 X.2.1 dX12_open_11 (by decide) ?_
  refine p12_4 X I (k := 123) (by decide) rfl lf_X12_122 dX12_open_12 (fun H locs I => ?_)
  refine lv_aload_n X.1 X.2.1 dX12_open_15 rfl (lv_at hl 0 rfl) ?_
  refine lv_iconst (v := 0) X.1 X.2.1 dX12_open_16 (by decide) ?_
  refine p12_5 X I (k := 123) (by decide) rfl lf_X12_128 dX12_open_17 (fun H locs I => ?_)
  refine lv_aload_n X.1 X.2.1 dX12_open_20 rfl (lv_at hl 0 rfl) ?_
  refine g12_8 X I (k := 123) (by decide) rfl lf_X12_19 dX12_open_21 ?_
  refine lv_iload_n X.1 X.2.1 dX12_open_24 rfl (lv_at hl 1 rfl) ?_
  refine lv_iconst (v := 0) X.1 X.2.1 dX12_open_25 (by decide) ?_
  have ho1 := ho.1
  have ho := ho.2
  refine r_ast X I (k := 127) (n := 5) (by decide) rfl ho1 dX12_open_26 (fun H locs I => ?_)
  refine lv_aload_n X.1 X.2.1 dX12_open_27 rfl (lv_at hl 0 rfl) ?_
  refine g12_9 X I (k := 123) (by decide) rfl lf_X12_22 dX12_open_28 ?_
  refine lv_iload_n X.1 X.2.1 dX12_open_31 rfl (lv_at hl 1 rfl) ?_
  refine lv_iconst (v := 0) X.1 X.2.1 dX12_open_32 (by decide) ?_
  have ho2 := ho.1
  have ho := ho.2
  refine r_ast X I (k := 128) (n := 5) (by decide) rfl ho2 dX12_open_33 (fun H locs I => ?_)
  have h9 := hE
  exact r_vret X I (e_v h9.symm rfl) dX12_open_34
noncomputable def f12_atEnd (σ : SI) : Int32 × SI := if (σ 123 4) = (-1 : Int32) then (let r0 := (f12_look σ); if r0.1 = (-1 : Int32) then ((r0.2 123 4), r0.2) else (let s1 := (f12_bad r0.2); ((s1 123 4), s1))) else ((σ 123 4), σ)
noncomputable def o12_atEnd (σ : SI) : Prop := if (σ 123 4) = (-1 : Int32) then ((o12_look σ) ∧ (let r0 := (f12_look σ); if r0.1 = (-1 : Int32) then True else (let s1 := (f12_bad r0.2); True))) else True
theorem w_f12_atEnd (σ : SI) (a : Nat) (h0 : a ≠ 123) : (f12_atEnd σ).2 a = σ a := by
  refine fp_to2 ?_
  unfold f12_atEnd
  exact (fr_ite2 (fr_ite2 (fr_mk21 (w_f12_look _ a h0)) (fr_mk21 ((w_f12_bad _ a h0).trans (w_f12_look _ a h0)))) (fr_mk21 rfl))
set_option maxHeartbeats 4000000 in
set_option maxRecDepth 100000 in
theorem c12_atEnd (l : Launch) (G : GT) (σ : SI) (τ : SL) (ho : o12_atEnd σ) : Mc l yX12_atEnd cX12_atEnd 1 (some .int) 2 G [.ref (G.2.1 123)] σ τ (Qi G (Ei (f12_atEnd σ).1 (f12_atEnd σ).2 τ)) := by
  refine m_start (by decide +kernel) (Nat.le_of_ble_eq_true rfl) rfl (fun p e s m args below meth c ls X I hl => ?_)
  have hl : lv_has ls 1 [(0, .ref (G.2.1 123))] := hl
  obtain ⟨E, hE⟩ : ∃ E, E = (f12_atEnd σ) := ⟨_, rfl⟩
  rw [← hE]
  unfold o12_atEnd at ho
  refine lv_aload_n X.1 X.2.1 dX12_atEnd_0 rfl (lv_at hl 0 rfl) ?_
  refine g12_4 X I (k := 123) (by decide) rfl lf_X12_122 dX12_atEnd_1 ?_
  refine lv_iconst (v := (-1)) X.1 X.2.1 dX12_atEnd_4 (by decide) ?_
  refine lv_icmp_ne (tgt := 20) X.1 X.2.1 dX12_atEnd_5 (by decide) (fun c_1 => ?_) (fun c_1 => ?_)
  · skip
    have hE := ite_f hE c_1
    have ho := ite_fP ho c_1
    refine lv_aload_n X.1 X.2.1 dX12_atEnd_20 rfl (lv_at hl 0 rfl) ?_
    refine g12_4 X I (k := 123) (by decide) rfl lf_X12_122 dX12_atEnd_21 ?_
    have h9 := hE
    exact r_iret X I (e_i (pr_fst h9) (pr_snd h9) rfl) dX12_atEnd_24
  · skip
    have hE := ite_t hE c_1
    have ho := ite_tP ho c_1
    refine lv_aload_n X.1 X.2.1 dX12_atEnd_8 rfl (lv_at hl 0 rfl) ?_
    have ho1 := ho.1
    have ho := ho.2
    refine r_ei I (r_runV X I pk_X12_look (c12_look l G _ _ ho1) lm_X12_134 (by decide) (cl_12 rfl) rfl rfl rfl hl.1 rfl (Nat.le_of_ble_eq_true rfl) dX12_atEnd_9 ⟨Nat.le_of_ble_eq_true rfl, Nat.le_of_ble_eq_true rfl⟩ ⟨Nat.le_refl 0, Nat.le_refl 0⟩) (fun H locs I => ?_)
    refine lv_iconst (v := (-1)) X.1 X.2.1 dX12_atEnd_12 (by decide) ?_
    refine lv_icmp_eq (tgt := 20) X.1 X.2.1 dX12_atEnd_13 (by decide) (fun c_2 => ?_) (fun c_2 => ?_)
    · skip
      have hE := ite_t hE c_2
      have ho := ite_tP ho c_2
      refine lv_aload_n X.1 X.2.1 dX12_atEnd_20 rfl (lv_at hl 0 rfl) ?_
      refine g12_4 X I (k := 123) (by decide) rfl lf_X12_122 dX12_atEnd_21 ?_
      have h9 := hE
      exact r_iret X I (e_i (pr_fst h9) (pr_snd h9) rfl) dX12_atEnd_24
    · skip
      have hE := ite_f hE c_2
      have ho := ite_fP ho c_2
      refine lv_aload_n X.1 X.2.1 dX12_atEnd_16 rfl (lv_at hl 0 rfl) ?_
      refine r_ev I (r_runV X I pk_X12_bad (c12_bad l G _ _) lm_X12_131 (by decide) (cl_12 rfl) rfl rfl rfl hl.1 rfl (Nat.le_of_ble_eq_true rfl) dX12_atEnd_17 ⟨Nat.le_of_ble_eq_true rfl, Nat.le_of_ble_eq_true rfl⟩ ⟨Nat.le_refl 0, Nat.le_refl 0⟩) (fun H locs I => ?_)
      refine lv_aload_n X.1 X.2.1 dX12_atEnd_20 rfl (lv_at hl 0 rfl) ?_
      refine g12_4 X I (k := 123) (by decide) rfl lf_X12_122 dX12_atEnd_21 ?_
      have h9 := hE
      exact r_iret X I (e_i (pr_fst h9) (pr_snd h9) rfl) dX12_atEnd_24
noncomputable def f12_bounded (x0 : Int64) : Int32 := (Int64.toInt32 (if (if x0 < (1000000 : Int64) then x0 else (1000000 : Int64)) < (-1000000 : Int64) then (-1000000 : Int64) else (if x0 < (1000000 : Int64) then x0 else (1000000 : Int64))))
set_option maxHeartbeats 4000000 in
set_option maxRecDepth 100000 in
theorem c12_bounded (l : Launch) (G : GT) (σ : SI) (τ : SL) (x0 : Int64) : Mc l yX12_bounded cX12_bounded 2 (some .int) 1 G [.long x0] σ τ (Qi G (Ei (f12_bounded x0) σ τ)) := by
  refine m_start (by decide +kernel) (Nat.le_of_ble_eq_true rfl) rfl (fun p e s m args below meth c ls X I hl => ?_)
  have hl : lv_has ls 2 [(0, .long x0)] := hl
  obtain ⟨E, hE⟩ : ∃ E, E = (f12_bounded x0) := ⟨_, rfl⟩
  rw [← hE]
  refine lv_ldc2 X.1 X.2.1 (v := (-1000000)) X.2.2.2.2.1 (X.2.2.2.1 _ lq_X12_195) dX12_bounded_0 ?_
  refine lv_ldc2 X.1 X.2.1 (v := 1000000) X.2.2.2.2.1 (X.2.2.2.1 _ lq_X12_197) dX12_bounded_3 ?_
  refine lv_lload_n X.1 X.2.1 dX12_bounded_6 rfl (lv_at hl 0 rfl) ?_
  refine r_mminL X hl.1 lm_X12_199 ls_J9_min_f86c9 ln_J9 lc_J9_min_f86c9 (Nat.le_of_ble_eq_true rfl) (Nat.le_of_ble_eq_true rfl) (Nat.le_refl 0) (Nat.le_refl 0) dX12_bounded_7 ?_
  refine r_mmaxL X hl.1 lm_X12_205 ls_J9_max_f86c9 ln_J9 lc_J9_max_f86c9 (Nat.le_of_ble_eq_true rfl) (Nat.le_of_ble_eq_true rfl) (Nat.le_refl 0) (Nat.le_refl 0) dX12_bounded_10 ?_
  refine lv_l2i X.1 X.2.1 dX12_bounded_13 rfl ?_
  have h9 := hE
  exact r_iret X I (e_i h9.symm rfl rfl) dX12_bounded_14
noncomputable def f12_worked (x0 : Int32) (x1 : Int64) (x3 : Int64) : Int32 := if x0 = 2 then (f12_bounded (x1 + x3)) else (if x0 = 3 then (f12_bounded (x1 - x3)) else (if x0 = 4 then (f12_bounded (x1 * x3)) else (if x0 = 5 then (if (lg_cmp x3 (0 : Int64)) = (0 : Int32) then (0 : Int32) else (f12_bounded (x1 / x3))) else (if x0 = 6 then (if (lg_cmp x1 x3) = (0 : Int32) then (1 : Int32) else (0 : Int32)) else (if x0 = 7 then (if (0 : Int32) ≤ (lg_cmp x1 x3) then (0 : Int32) else (1 : Int32)) else (if x0 = 8 then (if (lg_cmp x1 x3) ≤ (0 : Int32) then (0 : Int32) else (1 : Int32)) else (if x0 = 10 then (if (lg_cmp x1 (0 : Int64)) = (0 : Int32) then (0 : Int32) else (if (lg_cmp x3 (0 : Int64)) = (0 : Int32) then (0 : Int32) else (1 : Int32))) else (if (lg_cmp x1 (0 : Int64)) = (0 : Int32) then (if (lg_cmp x3 (0 : Int64)) = (0 : Int32) then (0 : Int32) else (1 : Int32)) else (1 : Int32)))))))))
noncomputable def o12_worked (x0 : Int32) (x1 : Int64) (x3 : Int64) : Prop := if x0 = 2 then True else (if x0 = 3 then True else (if x0 = 4 then True else (if x0 = 5 then (if (lg_cmp x3 (0 : Int64)) = (0 : Int32) then True else ((x3 ≠ 0) ∧ True)) else (if x0 = 6 then (if (lg_cmp x1 x3) = (0 : Int32) then True else True) else (if x0 = 7 then (if (0 : Int32) ≤ (lg_cmp x1 x3) then True else True) else (if x0 = 8 then (if (lg_cmp x1 x3) ≤ (0 : Int32) then True else True) else (if x0 = 10 then (if (lg_cmp x1 (0 : Int64)) = (0 : Int32) then True else (if (lg_cmp x3 (0 : Int64)) = (0 : Int32) then True else True)) else (if (lg_cmp x1 (0 : Int64)) = (0 : Int32) then (if (lg_cmp x3 (0 : Int64)) = (0 : Int32) then True else True) else True))))))))
set_option maxHeartbeats 4000000 in
set_option maxRecDepth 100000 in
theorem c12_worked (l : Launch) (G : GT) (σ : SI) (τ : SL) (x0 : Int32) (x1 : Int64) (x3 : Int64) (ho : o12_worked x0 x1 x3) : Mc l yX12_worked cX12_worked 5 (some .int) 2 G [.int x0, .long x1, .long x3] σ τ (Qi G (Ei (f12_worked x0 x1 x3) σ τ)) := by
  refine m_start (by decide +kernel) (Nat.le_of_ble_eq_true rfl) rfl (fun p e s m args below meth c ls X I hl => ?_)
  have hl : lv_has ls 5 [(0, .int x0), (1, .long x1), (3, .long x3)] := hl
  obtain ⟨E, hE⟩ : ∃ E, E = (f12_worked x0 x1 x3) := ⟨_, rfl⟩
  rw [← hE]
  unfold o12_worked at ho
  refine lv_iload_n X.1 X.2.1 dX12_worked_0 rfl (lv_at hl 0 rfl) ?_
  rcases Classical.em (x0 = 2) with c_1 | c_1
  · skip
    have hE := ite_t hE c_1
    have ho := ite_tP ho c_1
    refine lv_tableIn (off := 51) (tgt := 52) X.1 X.2.1 dX12_worked_1 (by rw [c_1]; decide) (by rw [c_1]; decide) (by rw [c_1]; decide) (by decide) ?_
    refine lv_lload_n X.1 X.2.1 dX12_worked_52 rfl (lv_at hl 1 rfl) ?_
    refine lv_lload_n X.1 X.2.1 dX12_worked_53 rfl (lv_at hl 2 rfl) ?_
    refine lv_ladd X.1 X.2.1 dX12_worked_54 ?_
    refine r_ei I (r_runS X I pk_X12_bounded (c12_bounded l G _ _ _) lm_X12_208 rfl hl.1 rfl (Nat.le_of_ble_eq_true rfl) dX12_worked_55 ⟨Nat.le_of_ble_eq_true rfl, Nat.le_of_ble_eq_true rfl⟩ ⟨Nat.le_refl 0, Nat.le_refl 0⟩) (fun H locs I => ?_)
    have h9 := hE
    exact r_iret X I (e_i h9.symm rfl rfl) dX12_worked_58
  have hE := ite_f hE c_1
  have ho := ite_fP ho c_1
  rcases Classical.em (x0 = 3) with c_2 | c_2
  · skip
    have hE := ite_t hE c_2
    have ho := ite_tP ho c_2
    refine lv_tableIn (off := 58) (tgt := 59) X.1 X.2.1 dX12_worked_1 (by rw [c_2]; decide) (by rw [c_2]; decide) (by rw [c_2]; decide) (by decide) ?_
    refine lv_lload_n X.1 X.2.1 dX12_worked_59 rfl (lv_at hl 1 rfl) ?_
    refine lv_lload_n X.1 X.2.1 dX12_worked_60 rfl (lv_at hl 2 rfl) ?_
    refine lv_lsub X.1 X.2.1 dX12_worked_61 ?_
    refine r_ei I (r_runS X I pk_X12_bounded (c12_bounded l G _ _ _) lm_X12_208 rfl hl.1 rfl (Nat.le_of_ble_eq_true rfl) dX12_worked_62 ⟨Nat.le_of_ble_eq_true rfl, Nat.le_of_ble_eq_true rfl⟩ ⟨Nat.le_refl 0, Nat.le_refl 0⟩) (fun H locs I => ?_)
    have h9 := hE
    exact r_iret X I (e_i h9.symm rfl rfl) dX12_worked_65
  have hE := ite_f hE c_2
  have ho := ite_fP ho c_2
  rcases Classical.em (x0 = 4) with c_3 | c_3
  · skip
    have hE := ite_t hE c_3
    have ho := ite_tP ho c_3
    refine lv_tableIn (off := 65) (tgt := 66) X.1 X.2.1 dX12_worked_1 (by rw [c_3]; decide) (by rw [c_3]; decide) (by rw [c_3]; decide) (by decide) ?_
    refine lv_lload_n X.1 X.2.1 dX12_worked_66 rfl (lv_at hl 1 rfl) ?_
    refine lv_lload_n X.1 X.2.1 dX12_worked_67 rfl (lv_at hl 2 rfl) ?_
    refine lv_lmul X.1 X.2.1 dX12_worked_68 ?_
    refine r_ei I (r_runS X I pk_X12_bounded (c12_bounded l G _ _ _) lm_X12_208 rfl hl.1 rfl (Nat.le_of_ble_eq_true rfl) dX12_worked_69 ⟨Nat.le_of_ble_eq_true rfl, Nat.le_of_ble_eq_true rfl⟩ ⟨Nat.le_refl 0, Nat.le_refl 0⟩) (fun H locs I => ?_)
    have h9 := hE
    exact r_iret X I (e_i h9.symm rfl rfl) dX12_worked_72
  have hE := ite_f hE c_3
  have ho := ite_fP ho c_3
  rcases Classical.em (x0 = 5) with c_4 | c_4
  · skip
    have hE := ite_t hE c_4
    have ho := ite_tP ho c_4
    refine lv_tableIn (off := 72) (tgt := 73) X.1 X.2.1 dX12_worked_1 (by rw [c_4]; decide) (by rw [c_4]; decide) (by rw [c_4]; decide) (by decide) ?_
    refine lv_lload_n X.1 X.2.1 dX12_worked_73 rfl (lv_at hl 2 rfl) ?_
    refine lv_lconst (v := 0) X.1 X.2.1 dX12_worked_74 rfl ?_
    refine W.lcmp X.1 X.2.1 dX12_worked_75 ?_
    refine lv_if_ne (tgt := 83) X.1 X.2.1 dX12_worked_76 (by decide) (fun c_5 => ?_) (fun c_5 => ?_)
    · skip
      have hE := ite_f hE c_5
      have ho := ite_fP ho c_5
      refine lv_lload_n X.1 X.2.1 dX12_worked_83 rfl (lv_at hl 1 rfl) ?_
      refine lv_lload_n X.1 X.2.1 dX12_worked_84 rfl (lv_at hl 2 rfl) ?_
      have ho1 := ho.1
      have ho := ho.2
      refine lv_ldiv X.1 X.2.1 dX12_worked_85 ho1 ?_
      refine r_ei I (r_runS X I pk_X12_bounded (c12_bounded l G _ _ _) lm_X12_208 rfl hl.1 rfl (Nat.le_of_ble_eq_true rfl) dX12_worked_86 ⟨Nat.le_of_ble_eq_true rfl, Nat.le_of_ble_eq_true rfl⟩ ⟨Nat.le_refl 0, Nat.le_refl 0⟩) (fun H locs I => ?_)
      have h9 := hE
      exact r_iret X I (e_i h9.symm rfl rfl) dX12_worked_89
    · skip
      have hE := ite_t hE c_5
      have ho := ite_tP ho c_5
      refine lv_iconst (v := 0) X.1 X.2.1 dX12_worked_79 (by decide) ?_
      refine lv_goto (tgt := 89) X.1 X.2.1 dX12_worked_80 (by decide) ?_
      have h9 := hE
      exact r_iret X I (e_i h9.symm rfl rfl) dX12_worked_89
  have hE := ite_f hE c_4
  have ho := ite_fP ho c_4
  rcases Classical.em (x0 = 6) with c_6 | c_6
  · skip
    have hE := ite_t hE c_6
    have ho := ite_tP ho c_6
    refine lv_tableIn (off := 89) (tgt := 90) X.1 X.2.1 dX12_worked_1 (by rw [c_6]; decide) (by rw [c_6]; decide) (by rw [c_6]; decide) (by decide) ?_
    refine lv_lload_n X.1 X.2.1 dX12_worked_90 rfl (lv_at hl 1 rfl) ?_
    refine lv_lload_n X.1 X.2.1 dX12_worked_91 rfl (lv_at hl 2 rfl) ?_
    refine W.lcmp X.1 X.2.1 dX12_worked_92 ?_
    refine lv_if_ne (tgt := 100) X.1 X.2.1 dX12_worked_93 (by decide) (fun c_7 => ?_) (fun c_7 => ?_)
    · skip
      have hE := ite_f hE c_7
      have ho := ite_fP ho c_7
      refine lv_iconst (v := 0) X.1 X.2.1 dX12_worked_100 (by decide) ?_
      have h9 := hE
      exact r_iret X I (e_i h9.symm rfl rfl) dX12_worked_101
    · skip
      have hE := ite_t hE c_7
      have ho := ite_tP ho c_7
      refine lv_iconst (v := 1) X.1 X.2.1 dX12_worked_96 (by decide) ?_
      refine lv_goto (tgt := 101) X.1 X.2.1 dX12_worked_97 (by decide) ?_
      have h9 := hE
      exact r_iret X I (e_i h9.symm rfl rfl) dX12_worked_101
  have hE := ite_f hE c_6
  have ho := ite_fP ho c_6
  rcases Classical.em (x0 = 7) with c_8 | c_8
  · skip
    have hE := ite_t hE c_8
    have ho := ite_tP ho c_8
    refine lv_tableIn (off := 101) (tgt := 102) X.1 X.2.1 dX12_worked_1 (by rw [c_8]; decide) (by rw [c_8]; decide) (by rw [c_8]; decide) (by decide) ?_
    refine lv_lload_n X.1 X.2.1 dX12_worked_102 rfl (lv_at hl 1 rfl) ?_
    refine lv_lload_n X.1 X.2.1 dX12_worked_103 rfl (lv_at hl 2 rfl) ?_
    refine W.lcmp X.1 X.2.1 dX12_worked_104 ?_
    refine lv_if_ge (tgt := 112) X.1 X.2.1 dX12_worked_105 (by decide) (fun c_9 => ?_) (fun c_9 => ?_)
    · skip
      have hE := ite_t hE c_9
      have ho := ite_tP ho c_9
      refine lv_iconst (v := 0) X.1 X.2.1 dX12_worked_112 (by decide) ?_
      have h9 := hE
      exact r_iret X I (e_i h9.symm rfl rfl) dX12_worked_113
    · skip
      have hE := ite_f hE c_9
      have ho := ite_fP ho c_9
      refine lv_iconst (v := 1) X.1 X.2.1 dX12_worked_108 (by decide) ?_
      refine lv_goto (tgt := 113) X.1 X.2.1 dX12_worked_109 (by decide) ?_
      have h9 := hE
      exact r_iret X I (e_i h9.symm rfl rfl) dX12_worked_113
  have hE := ite_f hE c_8
  have ho := ite_fP ho c_8
  rcases Classical.em (x0 = 8) with c_10 | c_10
  · skip
    have hE := ite_t hE c_10
    have ho := ite_tP ho c_10
    refine lv_tableIn (off := 113) (tgt := 114) X.1 X.2.1 dX12_worked_1 (by rw [c_10]; decide) (by rw [c_10]; decide) (by rw [c_10]; decide) (by decide) ?_
    refine lv_lload_n X.1 X.2.1 dX12_worked_114 rfl (lv_at hl 1 rfl) ?_
    refine lv_lload_n X.1 X.2.1 dX12_worked_115 rfl (lv_at hl 2 rfl) ?_
    refine W.lcmp X.1 X.2.1 dX12_worked_116 ?_
    refine lv_if_le (tgt := 124) X.1 X.2.1 dX12_worked_117 (by decide) (fun c_11 => ?_) (fun c_11 => ?_)
    · skip
      have hE := ite_t hE c_11
      have ho := ite_tP ho c_11
      refine lv_iconst (v := 0) X.1 X.2.1 dX12_worked_124 (by decide) ?_
      have h9 := hE
      exact r_iret X I (e_i h9.symm rfl rfl) dX12_worked_125
    · skip
      have hE := ite_f hE c_11
      have ho := ite_fP ho c_11
      refine lv_iconst (v := 1) X.1 X.2.1 dX12_worked_120 (by decide) ?_
      refine lv_goto (tgt := 125) X.1 X.2.1 dX12_worked_121 (by decide) ?_
      have h9 := hE
      exact r_iret X I (e_i h9.symm rfl rfl) dX12_worked_125
  have hE := ite_f hE c_10
  have ho := ite_fP ho c_10
  rcases Classical.em (x0 = 10) with c_12 | c_12
  · skip
    have hE := ite_t hE c_12
    have ho := ite_tP ho c_12
    refine lv_tableIn (off := 125) (tgt := 126) X.1 X.2.1 dX12_worked_1 (by rw [c_12]; decide) (by rw [c_12]; decide) (by rw [c_12]; decide) (by decide) ?_
    refine lv_lload_n X.1 X.2.1 dX12_worked_126 rfl (lv_at hl 1 rfl) ?_
    refine lv_lconst (v := 0) X.1 X.2.1 dX12_worked_127 rfl ?_
    refine W.lcmp X.1 X.2.1 dX12_worked_128 ?_
    refine lv_if_eq (tgt := 142) X.1 X.2.1 dX12_worked_129 (by decide) (fun c_13 => ?_) (fun c_13 => ?_)
    · skip
      have hE := ite_t hE c_13
      have ho := ite_tP ho c_13
      refine lv_iconst (v := 0) X.1 X.2.1 dX12_worked_142 (by decide) ?_
      have h9 := hE
      exact r_iret X I (e_i h9.symm rfl rfl) dX12_worked_143
    · skip
      have hE := ite_f hE c_13
      have ho := ite_fP ho c_13
      refine lv_lload_n X.1 X.2.1 dX12_worked_132 rfl (lv_at hl 2 rfl) ?_
      refine lv_lconst (v := 0) X.1 X.2.1 dX12_worked_133 rfl ?_
      refine W.lcmp X.1 X.2.1 dX12_worked_134 ?_
      refine lv_if_eq (tgt := 142) X.1 X.2.1 dX12_worked_135 (by decide) (fun c_14 => ?_) (fun c_14 => ?_)
      · skip
        have hE := ite_t hE c_14
        have ho := ite_tP ho c_14
        refine lv_iconst (v := 0) X.1 X.2.1 dX12_worked_142 (by decide) ?_
        have h9 := hE
        exact r_iret X I (e_i h9.symm rfl rfl) dX12_worked_143
      · skip
        have hE := ite_f hE c_14
        have ho := ite_fP ho c_14
        refine lv_iconst (v := 1) X.1 X.2.1 dX12_worked_138 (by decide) ?_
        refine lv_goto (tgt := 143) X.1 X.2.1 dX12_worked_139 (by decide) ?_
        have h9 := hE
        exact r_iret X I (e_i h9.symm rfl rfl) dX12_worked_143
  have hE := ite_f hE c_12
  have ho := ite_fP ho c_12
  refine lv_tableD (L := [2, 3, 4, 5, 6, 7, 8, 10]) (tgt := 144) X.1 X.2.1 dX12_worked_1 (by decide) (List.forall_mem_cons.mpr ⟨c_1, (List.forall_mem_cons.mpr ⟨c_2, (List.forall_mem_cons.mpr ⟨c_3, (List.forall_mem_cons.mpr ⟨c_4, (List.forall_mem_cons.mpr ⟨c_6, (List.forall_mem_cons.mpr ⟨c_8, (List.forall_mem_cons.mpr ⟨c_10, (List.forall_mem_cons.mpr ⟨c_12, (fun _ h => absurd h List.not_mem_nil)⟩)⟩)⟩)⟩)⟩)⟩)⟩)⟩) (by decide) ?_
  refine lv_lload_n X.1 X.2.1 dX12_worked_144 rfl (lv_at hl 1 rfl) ?_
  refine lv_lconst (v := 0) X.1 X.2.1 dX12_worked_145 rfl ?_
  refine W.lcmp X.1 X.2.1 dX12_worked_146 ?_
  refine lv_if_ne (tgt := 156) X.1 X.2.1 dX12_worked_147 (by decide) (fun c_15 => ?_) (fun c_15 => ?_)
  · skip
    have hE := ite_f hE c_15
    have ho := ite_fP ho c_15
    refine lv_iconst (v := 1) X.1 X.2.1 dX12_worked_156 (by decide) ?_
    refine lv_goto (tgt := 161) X.1 X.2.1 dX12_worked_157 (by decide) ?_
    have h9 := hE
    exact r_iret X I (e_i h9.symm rfl rfl) dX12_worked_161
  · skip
    have hE := ite_t hE c_15
    have ho := ite_tP ho c_15
    refine lv_lload_n X.1 X.2.1 dX12_worked_150 rfl (lv_at hl 2 rfl) ?_
    refine lv_lconst (v := 0) X.1 X.2.1 dX12_worked_151 rfl ?_
    refine W.lcmp X.1 X.2.1 dX12_worked_152 ?_
    refine lv_if_eq (tgt := 160) X.1 X.2.1 dX12_worked_153 (by decide) (fun c_16 => ?_) (fun c_16 => ?_)
    · skip
      have hE := ite_t hE c_16
      have ho := ite_tP ho c_16
      refine lv_iconst (v := 0) X.1 X.2.1 dX12_worked_160 (by decide) ?_
      have h9 := hE
      exact r_iret X I (e_i h9.symm rfl rfl) dX12_worked_161
    · skip
      have hE := ite_f hE c_16
      have ho := ite_fP ho c_16
      refine lv_iconst (v := 1) X.1 X.2.1 dX12_worked_156 (by decide) ?_
      refine lv_goto (tgt := 161) X.1 X.2.1 dX12_worked_157 (by decide) ?_
      have h9 := hE
      exact r_iret X I (e_i h9.symm rfl rfl) dX12_worked_161
noncomputable def f12_workOut_c12 (x1 : Int32) (x2 : Int32) (x3 : Int32) : Nat → Int32 → Int32 → SI → (Int32 × SI)
  | 0, _, _, σ => (0, σ)
  | fu + 1, v4, v5, σ => if (((520 : Int32) * x1) + x3) ≤ v5 then ((σ 133 0), σ) else (if (σ 125 (Int32.toNatClampNeg v5)) = (0 : Int32) then (if (σ 125 (Int32.toNatClampNeg v5)) = (0 : Int32) then (let s1 := sp σ 133 (Int32.toNatClampNeg v4) (σ 126 (Int32.toNatClampNeg v5)); (f12_workOut_c12 x1 x2 x3 fu (v4 + 1) (v5 + 1) s1)) else (let s0 := sp σ 133 (Int32.toNatClampNeg v4) (σ 132 (Int32.toNatClampNeg (σ 126 (Int32.toNatClampNeg v5)))); (f12_workOut_c12 x1 x2 x3 fu (v4 + 1) (v5 + 1) s0))) else (if (σ 125 (Int32.toNatClampNeg v5)) = (1 : Int32) then (if (σ 125 (Int32.toNatClampNeg v5)) = (0 : Int32) then (let s5 := sp σ 133 (Int32.toNatClampNeg v4) (σ 126 (Int32.toNatClampNeg v5)); (f12_workOut_c12 x1 x2 x3 fu (v4 + 1) (v5 + 1) s5)) else (let s4 := sp σ 133 (Int32.toNatClampNeg v4) (σ 132 (Int32.toNatClampNeg (σ 126 (Int32.toNatClampNeg v5)))); (f12_workOut_c12 x1 x2 x3 fu (v4 + 1) (v5 + 1) s4))) else (if (σ 125 (Int32.toNatClampNeg v5)) = (9 : Int32) then (let s3 := sp σ 133 (Int32.toNatClampNeg (v4 - (1 : Int32))) ((1 : Int32) - (σ 133 (Int32.toNatClampNeg (v4 - (1 : Int32))))); (f12_workOut_c12 x1 x2 x3 fu v4 (v5 + 1) s3)) else (let s2 := sp σ 133 (Int32.toNatClampNeg ((v4 + (-1)) - (1 : Int32))) (f12_worked (σ 125 (Int32.toNatClampNeg v5)) (Int32.toInt64 (σ 133 (Int32.toNatClampNeg ((v4 + (-1)) - (1 : Int32))))) (Int32.toInt64 (σ 133 (Int32.toNatClampNeg (v4 + (-1)))))); (f12_workOut_c12 x1 x2 x3 fu (v4 + (-1)) (v5 + 1) s2)))))
noncomputable def o12_workOut_c12 (x1 : Int32) (x2 : Int32) (x3 : Int32) : Nat → Int32 → Int32 → SI → Prop
  | 0, _, _, _ => True
  | fu + 1, v4, v5, σ => if (((520 : Int32) * x1) + x3) ≤ v5 then True else ((vp_in v5 2600) ∧ (if (σ 125 (Int32.toNatClampNeg v5)) = (0 : Int32) then ((vp_in v5 2600) ∧ (if (σ 125 (Int32.toNatClampNeg v5)) = (0 : Int32) then ((vp_in v5 2600) ∧ ((vp_in v4 80) ∧ (let s1 := sp σ 133 (Int32.toNatClampNeg v4) (σ 126 (Int32.toNatClampNeg v5)); (o12_workOut_c12 x1 x2 x3 fu (v4 + 1) (v5 + 1) s1)))) else ((vp_in v5 2600) ∧ ((vp_in (σ 126 (Int32.toNatClampNeg v5)) 6) ∧ ((vp_in v4 80) ∧ (let s0 := sp σ 133 (Int32.toNatClampNeg v4) (σ 132 (Int32.toNatClampNeg (σ 126 (Int32.toNatClampNeg v5)))); (o12_workOut_c12 x1 x2 x3 fu (v4 + 1) (v5 + 1) s0))))))) else ((vp_in v5 2600) ∧ (if (σ 125 (Int32.toNatClampNeg v5)) = (1 : Int32) then ((vp_in v5 2600) ∧ (if (σ 125 (Int32.toNatClampNeg v5)) = (0 : Int32) then ((vp_in v5 2600) ∧ ((vp_in v4 80) ∧ (let s5 := sp σ 133 (Int32.toNatClampNeg v4) (σ 126 (Int32.toNatClampNeg v5)); (o12_workOut_c12 x1 x2 x3 fu (v4 + 1) (v5 + 1) s5)))) else ((vp_in v5 2600) ∧ ((vp_in (σ 126 (Int32.toNatClampNeg v5)) 6) ∧ ((vp_in v4 80) ∧ (let s4 := sp σ 133 (Int32.toNatClampNeg v4) (σ 132 (Int32.toNatClampNeg (σ 126 (Int32.toNatClampNeg v5)))); (o12_workOut_c12 x1 x2 x3 fu (v4 + 1) (v5 + 1) s4))))))) else ((vp_in v5 2600) ∧ (if (σ 125 (Int32.toNatClampNeg v5)) = (9 : Int32) then ((vp_in (v4 - (1 : Int32)) 80) ∧ ((vp_in (v4 - (1 : Int32)) 80) ∧ (let s3 := sp σ 133 (Int32.toNatClampNeg (v4 - (1 : Int32))) ((1 : Int32) - (σ 133 (Int32.toNatClampNeg (v4 - (1 : Int32))))); (o12_workOut_c12 x1 x2 x3 fu v4 (v5 + 1) s3)))) else ((vp_in v5 2600) ∧ ((vp_in ((v4 + (-1)) - (1 : Int32)) 80) ∧ ((vp_in (v4 + (-1)) 80) ∧ ((o12_worked (σ 125 (Int32.toNatClampNeg v5)) (Int32.toInt64 (σ 133 (Int32.toNatClampNeg ((v4 + (-1)) - (1 : Int32))))) (Int32.toInt64 (σ 133 (Int32.toNatClampNeg (v4 + (-1)))))) ∧ ((vp_in ((v4 + (-1)) - (1 : Int32)) 80) ∧ (let s2 := sp σ 133 (Int32.toNatClampNeg ((v4 + (-1)) - (1 : Int32))) (f12_worked (σ 125 (Int32.toNatClampNeg v5)) (Int32.toInt64 (σ 133 (Int32.toNatClampNeg ((v4 + (-1)) - (1 : Int32))))) (Int32.toInt64 (σ 133 (Int32.toNatClampNeg (v4 + (-1)))))); (o12_workOut_c12 x1 x2 x3 fu (v4 + (-1)) (v5 + 1) s2)))))))))))))
noncomputable def f12_workOut (σ : SI) (x1 : Int32) (x2 : Int32) (x3 : Int32) : Int32 × SI := (f12_workOut_c12 x1 x2 x3 (fu1 ((Int32.toInt (((520 : Int32) * x1) + x3) - Int32.toInt (((520 : Int32) * x1) + x2)).toNat)) (0 : Int32) (((520 : Int32) * x1) + x2) σ)
noncomputable def o12_workOut (σ : SI) (x1 : Int32) (x2 : Int32) (x3 : Int32) : Prop := (o12_workOut_c12 x1 x2 x3 (fu1 ((Int32.toInt (((520 : Int32) * x1) + x3) - Int32.toInt (((520 : Int32) * x1) + x2)).toNat)) (0 : Int32) (((520 : Int32) * x1) + x2) σ)
theorem w_f12_workOut_c12 (x1 : Int32) (x2 : Int32) (x3 : Int32) (a : Nat) (h0 : a ≠ 133) : ∀ (fu : Nat) (v4 : Int32) (v5 : Int32) (σ : SI), (f12_workOut_c12 x1 x2 x3 fu v4 v5 σ).2 a = σ a := by
  intro fu
  induction fu with
  | zero => intro v4 v5 σ; exact rfl
  | succ fu ih =>
    intro v4 v5 σ
    refine fp_to2 ?_
    unfold f12_workOut_c12
    exact (fr_ite2 (fr_mk21 rfl) (fr_ite2 (fr_ite2 (fp_of2 (((ih _ _ _).trans (sp_n h0)))) (fp_of2 (((ih _ _ _).trans (sp_n h0))))) (fr_ite2 (fr_ite2 (fp_of2 (((ih _ _ _).trans (sp_n h0)))) (fp_of2 (((ih _ _ _).trans (sp_n h0))))) (fr_ite2 (fp_of2 (((ih _ _ _).trans (sp_n h0)))) (fp_of2 (((ih _ _ _).trans (sp_n h0))))))))
theorem w_f12_workOut (σ : SI) (x1 : Int32) (x2 : Int32) (x3 : Int32) (a : Nat) (h0 : a ≠ 133) : (f12_workOut σ x1 x2 x3).2 a = σ a := by
  refine fp_to2 ?_
  unfold f12_workOut
  exact (fp_of2 ((w_f12_workOut_c12 _ _ _ a h0 _ _ _ _)))
set_option maxHeartbeats 4000000 in
set_option maxRecDepth 100000 in
theorem c12_workOut_c12 {l : Launch} {p : Program} {e : Env} {s : State} {m : MethodId} {args : Array Value} {below : List Frame} {meth : Method} {c : Code} {G : GT} (X : CX p s m args meth c cX12_workOut RX12 6 (some .int) G) {E : Int32 × SI} (τ : SL) (x1 : Int32) (x2 : Int32) (x3 : Int32) : ∀ (fu : Nat) (v4 : Int32) (v5 : Int32) (σ : SI) (H : Heap) (locs : List Loc) (ls : Array Slot), IX G s H locs σ τ → lv_has ls 6 [(0, .ref (G.2.1 123)), (1, .int x1), (2, .int x2), (3, .int x3), (4, .int v4), (5, .int v5)] → (o12_workOut_c12 x1 x2 x3 fu v4 v5 σ) → (Int32.toInt (((520 : Int32) * x1) + x3) - Int32.toInt v5).toNat < fu → E = (f12_workOut_c12 x1 x2 x3 fu v4 v5 σ) → W p l e (rmN 3) s m args below meth c H locs 0 0 (MQ below ((Qi G (Ei E.1 E.2 τ)) s.heap.size) args s 0 0 (AW G s.heap.size)) (F0 m 12 ls []) := by
  intro fu
  induction fu with
  | zero =>
    intro v4 v5 σ H locs ls I hl  ho hm hE
    exact absurd hm (Nat.not_lt_zero _)
  | succ fu ih =>
    intro v4 v5 σ H locs ls I hl  ho hm hE
    unfold o12_workOut_c12 at ho
    refine lv_iload X.1 X.2.1 dX12_workOut_12 (lv_at hl 5 rfl) ?_
    refine lv_sipush (v := 520) X.1 X.2.1 dX12_workOut_14 (by decide) ?_
    refine lv_iload_n X.1 X.2.1 dX12_workOut_17 rfl (lv_at hl 1 rfl) ?_
    refine lv_imul X.1 X.2.1 dX12_workOut_18 ?_
    refine lv_iload_n X.1 X.2.1 dX12_workOut_19 rfl (lv_at hl 3 rfl) ?_
    refine lv_iadd X.1 X.2.1 dX12_workOut_20 ?_
    refine lv_icmp_ge (tgt := 171) X.1 X.2.1 dX12_workOut_21 (by decide) (fun c_1 => ?_) (fun c_1 => ?_)
    · skip
      have hE := ite_t hE c_1
      have ho := ite_tP ho c_1
      refine lv_aload_n X.1 X.2.1 dX12_workOut_171 rfl (lv_at hl 0 rfl) ?_
      refine g12_16 X I (k := 123) (by decide) rfl lf_X12_37 dX12_workOut_172 ?_
      refine lv_iconst (v := 0) X.1 X.2.1 dX12_workOut_175 (by decide) ?_
      refine r_ald X I (k := 133) (n := 80) (by decide) rfl (by unfold vp_in; decide) dX12_workOut_176 ?_
      have h9 := hE
      exact r_iret X I (e_i (pr_fst h9) (pr_snd h9) rfl) dX12_workOut_177
    · skip
      have hE := ite_f hE c_1
      have ho := ite_fP ho c_1
      refine lv_aload_n X.1 X.2.1 dX12_workOut_24 rfl (lv_at hl 0 rfl) ?_
      refine g12_6 X I (k := 123) (by decide) rfl lf_X12_13 dX12_workOut_25 ?_
      refine lv_iload X.1 X.2.1 dX12_workOut_28 (lv_at hl 5 rfl) ?_
      have ho1 := ho.1
      have ho := ho.2
      refine r_ald X I (k := 125) (n := 2600) (by decide) rfl ho1 dX12_workOut_30 ?_
      refine lv_if_eq (tgt := 45) X.1 X.2.1 dX12_workOut_31 (by decide) (fun c_2 => ?_) (fun c_2 => ?_)
      · skip
        have hE := ite_t hE c_2
        have ho := ite_tP ho c_2
        refine lv_aload_n X.1 X.2.1 dX12_workOut_45 rfl (lv_at hl 0 rfl) ?_
        refine g12_16 X I (k := 123) (by decide) rfl lf_X12_37 dX12_workOut_46 ?_
        refine lv_iload X.1 X.2.1 dX12_workOut_49 (lv_at hl 4 rfl) ?_
        refine lv_aload_n X.1 X.2.1 dX12_workOut_51 rfl (lv_at hl 0 rfl) ?_
        refine g12_6 X I (k := 123) (by decide) rfl lf_X12_13 dX12_workOut_52 ?_
        refine lv_iload X.1 X.2.1 dX12_workOut_55 (lv_at hl 5 rfl) ?_
        have ho2 := ho.1
        have ho := ho.2
        refine r_ald X I (k := 125) (n := 2600) (by decide) rfl ho2 dX12_workOut_57 ?_
        refine lv_if_ne (tgt := 71) X.1 X.2.1 dX12_workOut_58 (by decide) (fun c_3 => ?_) (fun c_3 => ?_)
        · skip
          have hE := ite_f hE c_3
          have ho := ite_fP ho c_3
          refine lv_aload_n X.1 X.2.1 dX12_workOut_71 rfl (lv_at hl 0 rfl) ?_
          refine g12_15 X I (k := 123) (by decide) rfl lf_X12_34 dX12_workOut_72 ?_
          refine lv_aload_n X.1 X.2.1 dX12_workOut_75 rfl (lv_at hl 0 rfl) ?_
          refine g12_7 X I (k := 123) (by decide) rfl lf_X12_16 dX12_workOut_76 ?_
          refine lv_iload X.1 X.2.1 dX12_workOut_79 (lv_at hl 5 rfl) ?_
          have ho3 := ho.1
          have ho := ho.2
          refine r_ald X I (k := 126) (n := 2600) (by decide) rfl ho3 dX12_workOut_81 ?_
          have ho4 := ho.1
          have ho := ho.2
          refine r_ald X I (k := 132) (n := 6) (by decide) rfl ho4 dX12_workOut_82 ?_
          have ho5 := ho.1
          have ho := ho.2
          refine r_ast X I (k := 133) (n := 80) (by decide) rfl ho5 dX12_workOut_83 (fun H locs I => ?_)
          refine lv_iinc (v := _ + 1) (lv' := [(4, .int _), (0, .ref _), (1, .int _), (2, .int _), (3, .int _), (5, .int _)]) X.1 X.2.1 dX12_workOut_84 hl (k := 4) rfl rfl (by decide) rfl (fun ls hl => ?_)
          refine lv_goto (tgt := 165) X.1 X.2.1 dX12_workOut_87 (by decide) ?_
          refine lv_iinc (v := _ + 1) (lv' := [(5, .int _), (4, .int _), (0, .ref _), (1, .int _), (2, .int _), (3, .int _)]) X.1 X.2.1 dX12_workOut_165 hl (k := 5) rfl rfl (by decide) rfl (fun ls hl => ?_)
          refine lv_goto (tgt := 12) X.1 X.2.1 dX12_workOut_168 (by decide) ?_
          exact ih _ _ _ _ _ _ I (lv_sub hl [2, 3, 4, 5, 1, 0] rfl) ho (Nat.lt_of_lt_of_le (up_dec c_1) (Nat.le_of_lt_succ hm)) (hE.trans (rfl))
        · skip
          have hE := ite_t hE c_3
          have ho := ite_tP ho c_3
          refine lv_aload_n X.1 X.2.1 dX12_workOut_61 rfl (lv_at hl 0 rfl) ?_
          refine g12_7 X I (k := 123) (by decide) rfl lf_X12_16 dX12_workOut_62 ?_
          refine lv_iload X.1 X.2.1 dX12_workOut_65 (lv_at hl 5 rfl) ?_
          have ho6 := ho.1
          have ho := ho.2
          refine r_ald X I (k := 126) (n := 2600) (by decide) rfl ho6 dX12_workOut_67 ?_
          refine lv_goto (tgt := 83) X.1 X.2.1 dX12_workOut_68 (by decide) ?_
          have ho7 := ho.1
          have ho := ho.2
          refine r_ast X I (k := 133) (n := 80) (by decide) rfl ho7 dX12_workOut_83 (fun H locs I => ?_)
          refine lv_iinc (v := _ + 1) (lv' := [(4, .int _), (0, .ref _), (1, .int _), (2, .int _), (3, .int _), (5, .int _)]) X.1 X.2.1 dX12_workOut_84 hl (k := 4) rfl rfl (by decide) rfl (fun ls hl => ?_)
          refine lv_goto (tgt := 165) X.1 X.2.1 dX12_workOut_87 (by decide) ?_
          refine lv_iinc (v := _ + 1) (lv' := [(5, .int _), (4, .int _), (0, .ref _), (1, .int _), (2, .int _), (3, .int _)]) X.1 X.2.1 dX12_workOut_165 hl (k := 5) rfl rfl (by decide) rfl (fun ls hl => ?_)
          refine lv_goto (tgt := 12) X.1 X.2.1 dX12_workOut_168 (by decide) ?_
          exact ih _ _ _ _ _ _ I (lv_sub hl [2, 3, 4, 5, 1, 0] rfl) ho (Nat.lt_of_lt_of_le (up_dec c_1) (Nat.le_of_lt_succ hm)) (hE.trans (rfl))
      · skip
        have hE := ite_f hE c_2
        have ho := ite_fP ho c_2
        refine lv_aload_n X.1 X.2.1 dX12_workOut_34 rfl (lv_at hl 0 rfl) ?_
        refine g12_6 X I (k := 123) (by decide) rfl lf_X12_13 dX12_workOut_35 ?_
        refine lv_iload X.1 X.2.1 dX12_workOut_38 (lv_at hl 5 rfl) ?_
        have ho8 := ho.1
        have ho := ho.2
        refine r_ald X I (k := 125) (n := 2600) (by decide) rfl ho8 dX12_workOut_40 ?_
        refine lv_iconst (v := 1) X.1 X.2.1 dX12_workOut_41 (by decide) ?_
        refine lv_icmp_ne (tgt := 90) X.1 X.2.1 dX12_workOut_42 (by decide) (fun c_4 => ?_) (fun c_4 => ?_)
        · skip
          have hE := ite_f hE c_4
          have ho := ite_fP ho c_4
          refine lv_aload_n X.1 X.2.1 dX12_workOut_90 rfl (lv_at hl 0 rfl) ?_
          refine g12_6 X I (k := 123) (by decide) rfl lf_X12_13 dX12_workOut_91 ?_
          refine lv_iload X.1 X.2.1 dX12_workOut_94 (lv_at hl 5 rfl) ?_
          have ho9 := ho.1
          have ho := ho.2
          refine r_ald X I (k := 125) (n := 2600) (by decide) rfl ho9 dX12_workOut_96 ?_
          refine lv_bipush (v := 9) X.1 X.2.1 dX12_workOut_97 (by decide) ?_
          refine lv_icmp_ne (tgt := 125) X.1 X.2.1 dX12_workOut_99 (by decide) (fun c_5 => ?_) (fun c_5 => ?_)
          · skip
            have hE := ite_f hE c_5
            have ho := ite_fP ho c_5
            refine lv_iinc (v := _ + (-1)) (lv' := [(4, .int _), (0, .ref _), (1, .int _), (2, .int _), (3, .int _), (5, .int _)]) X.1 X.2.1 dX12_workOut_125 hl (k := 4) rfl rfl (by decide) rfl (fun ls hl => ?_)
            refine lv_aload_n X.1 X.2.1 dX12_workOut_128 rfl (lv_at hl 1 rfl) ?_
            refine g12_16 X I (k := 123) (by decide) rfl lf_X12_37 dX12_workOut_129 ?_
            refine lv_iload X.1 X.2.1 dX12_workOut_132 (lv_at hl 0 rfl) ?_
            refine lv_iconst (v := 1) X.1 X.2.1 dX12_workOut_134 (by decide) ?_
            refine lv_isub X.1 X.2.1 dX12_workOut_135 ?_
            refine lv_aload_n X.1 X.2.1 dX12_workOut_136 rfl (lv_at hl 1 rfl) ?_
            refine g12_6 X I (k := 123) (by decide) rfl lf_X12_13 dX12_workOut_137 ?_
            refine lv_iload X.1 X.2.1 dX12_workOut_140 (lv_at hl 5 rfl) ?_
            have ho10 := ho.1
            have ho := ho.2
            refine r_ald X I (k := 125) (n := 2600) (by decide) rfl ho10 dX12_workOut_142 ?_
            refine lv_aload_n X.1 X.2.1 dX12_workOut_143 rfl (lv_at hl 1 rfl) ?_
            refine g12_16 X I (k := 123) (by decide) rfl lf_X12_37 dX12_workOut_144 ?_
            refine lv_iload X.1 X.2.1 dX12_workOut_147 (lv_at hl 0 rfl) ?_
            refine lv_iconst (v := 1) X.1 X.2.1 dX12_workOut_149 (by decide) ?_
            refine lv_isub X.1 X.2.1 dX12_workOut_150 ?_
            have ho11 := ho.1
            have ho := ho.2
            refine r_ald X I (k := 133) (n := 80) (by decide) rfl ho11 dX12_workOut_151 ?_
            refine lv_i2l X.1 X.2.1 dX12_workOut_152 rfl ?_
            refine lv_aload_n X.1 X.2.1 dX12_workOut_153 rfl (lv_at hl 1 rfl) ?_
            refine g12_16 X I (k := 123) (by decide) rfl lf_X12_37 dX12_workOut_154 ?_
            refine lv_iload X.1 X.2.1 dX12_workOut_157 (lv_at hl 0 rfl) ?_
            have ho12 := ho.1
            have ho := ho.2
            refine r_ald X I (k := 133) (n := 80) (by decide) rfl ho12 dX12_workOut_159 ?_
            refine lv_i2l X.1 X.2.1 dX12_workOut_160 rfl ?_
            have ho13 := ho.1
            have ho := ho.2
            refine r_ei I (r_runS X I pk_X12_worked (c12_worked l G _ _ _ _ _ ho13) lm_X12_212 rfl hl.1 rfl (Nat.le_of_ble_eq_true rfl) dX12_workOut_161 ⟨Nat.le_of_ble_eq_true rfl, Nat.le_of_ble_eq_true rfl⟩ ⟨Nat.le_refl 0, Nat.le_refl 0⟩) (fun H locs I => ?_)
            have ho14 := ho.1
            have ho := ho.2
            refine r_ast X I (k := 133) (n := 80) (by decide) rfl ho14 dX12_workOut_164 (fun H locs I => ?_)
            refine lv_iinc (v := _ + 1) (lv' := [(5, .int _), (4, .int _), (0, .ref _), (1, .int _), (2, .int _), (3, .int _)]) X.1 X.2.1 dX12_workOut_165 hl (k := 5) rfl rfl (by decide) rfl (fun ls hl => ?_)
            refine lv_goto (tgt := 12) X.1 X.2.1 dX12_workOut_168 (by decide) ?_
            exact ih _ _ _ _ _ _ I (lv_sub hl [2, 3, 4, 5, 1, 0] rfl) ho (Nat.lt_of_lt_of_le (up_dec c_1) (Nat.le_of_lt_succ hm)) (hE.trans (rfl))
          · skip
            have hE := ite_t hE c_5
            have ho := ite_tP ho c_5
            refine lv_aload_n X.1 X.2.1 dX12_workOut_102 rfl (lv_at hl 0 rfl) ?_
            refine g12_16 X I (k := 123) (by decide) rfl lf_X12_37 dX12_workOut_103 ?_
            refine lv_iload X.1 X.2.1 dX12_workOut_106 (lv_at hl 4 rfl) ?_
            refine lv_iconst (v := 1) X.1 X.2.1 dX12_workOut_108 (by decide) ?_
            refine lv_isub X.1 X.2.1 dX12_workOut_109 ?_
            refine lv_iconst (v := 1) X.1 X.2.1 dX12_workOut_110 (by decide) ?_
            refine lv_aload_n X.1 X.2.1 dX12_workOut_111 rfl (lv_at hl 0 rfl) ?_
            refine g12_16 X I (k := 123) (by decide) rfl lf_X12_37 dX12_workOut_112 ?_
            refine lv_iload X.1 X.2.1 dX12_workOut_115 (lv_at hl 4 rfl) ?_
            refine lv_iconst (v := 1) X.1 X.2.1 dX12_workOut_117 (by decide) ?_
            refine lv_isub X.1 X.2.1 dX12_workOut_118 ?_
            have ho15 := ho.1
            have ho := ho.2
            refine r_ald X I (k := 133) (n := 80) (by decide) rfl ho15 dX12_workOut_119 ?_
            refine lv_isub X.1 X.2.1 dX12_workOut_120 ?_
            have ho16 := ho.1
            have ho := ho.2
            refine r_ast X I (k := 133) (n := 80) (by decide) rfl ho16 dX12_workOut_121 (fun H locs I => ?_)
            refine lv_goto (tgt := 165) X.1 X.2.1 dX12_workOut_122 (by decide) ?_
            refine lv_iinc (v := _ + 1) (lv' := [(5, .int _), (0, .ref _), (1, .int _), (2, .int _), (3, .int _), (4, .int _)]) X.1 X.2.1 dX12_workOut_165 hl (k := 5) rfl rfl (by decide) rfl (fun ls hl => ?_)
            refine lv_goto (tgt := 12) X.1 X.2.1 dX12_workOut_168 (by decide) ?_
            exact ih _ _ _ _ _ _ I (lv_sub hl [1, 2, 3, 4, 5, 0] rfl) ho (Nat.lt_of_lt_of_le (up_dec c_1) (Nat.le_of_lt_succ hm)) (hE.trans (rfl))
        · skip
          have hE := ite_t hE c_4
          have ho := ite_tP ho c_4
          refine lv_aload_n X.1 X.2.1 dX12_workOut_45 rfl (lv_at hl 0 rfl) ?_
          refine g12_16 X I (k := 123) (by decide) rfl lf_X12_37 dX12_workOut_46 ?_
          refine lv_iload X.1 X.2.1 dX12_workOut_49 (lv_at hl 4 rfl) ?_
          refine lv_aload_n X.1 X.2.1 dX12_workOut_51 rfl (lv_at hl 0 rfl) ?_
          refine g12_6 X I (k := 123) (by decide) rfl lf_X12_13 dX12_workOut_52 ?_
          refine lv_iload X.1 X.2.1 dX12_workOut_55 (lv_at hl 5 rfl) ?_
          have ho17 := ho.1
          have ho := ho.2
          refine r_ald X I (k := 125) (n := 2600) (by decide) rfl ho17 dX12_workOut_57 ?_
          refine lv_if_ne (tgt := 71) X.1 X.2.1 dX12_workOut_58 (by decide) (fun c_6 => ?_) (fun c_6 => ?_)
          · skip
            have hE := ite_f hE c_6
            have ho := ite_fP ho c_6
            refine lv_aload_n X.1 X.2.1 dX12_workOut_71 rfl (lv_at hl 0 rfl) ?_
            refine g12_15 X I (k := 123) (by decide) rfl lf_X12_34 dX12_workOut_72 ?_
            refine lv_aload_n X.1 X.2.1 dX12_workOut_75 rfl (lv_at hl 0 rfl) ?_
            refine g12_7 X I (k := 123) (by decide) rfl lf_X12_16 dX12_workOut_76 ?_
            refine lv_iload X.1 X.2.1 dX12_workOut_79 (lv_at hl 5 rfl) ?_
            have ho18 := ho.1
            have ho := ho.2
            refine r_ald X I (k := 126) (n := 2600) (by decide) rfl ho18 dX12_workOut_81 ?_
            have ho19 := ho.1
            have ho := ho.2
            refine r_ald X I (k := 132) (n := 6) (by decide) rfl ho19 dX12_workOut_82 ?_
            have ho20 := ho.1
            have ho := ho.2
            refine r_ast X I (k := 133) (n := 80) (by decide) rfl ho20 dX12_workOut_83 (fun H locs I => ?_)
            refine lv_iinc (v := _ + 1) (lv' := [(4, .int _), (0, .ref _), (1, .int _), (2, .int _), (3, .int _), (5, .int _)]) X.1 X.2.1 dX12_workOut_84 hl (k := 4) rfl rfl (by decide) rfl (fun ls hl => ?_)
            refine lv_goto (tgt := 165) X.1 X.2.1 dX12_workOut_87 (by decide) ?_
            refine lv_iinc (v := _ + 1) (lv' := [(5, .int _), (4, .int _), (0, .ref _), (1, .int _), (2, .int _), (3, .int _)]) X.1 X.2.1 dX12_workOut_165 hl (k := 5) rfl rfl (by decide) rfl (fun ls hl => ?_)
            refine lv_goto (tgt := 12) X.1 X.2.1 dX12_workOut_168 (by decide) ?_
            exact ih _ _ _ _ _ _ I (lv_sub hl [2, 3, 4, 5, 1, 0] rfl) ho (Nat.lt_of_lt_of_le (up_dec c_1) (Nat.le_of_lt_succ hm)) (hE.trans (rfl))
          · skip
            have hE := ite_t hE c_6
            have ho := ite_tP ho c_6
            refine lv_aload_n X.1 X.2.1 dX12_workOut_61 rfl (lv_at hl 0 rfl) ?_
            refine g12_7 X I (k := 123) (by decide) rfl lf_X12_16 dX12_workOut_62 ?_
            refine lv_iload X.1 X.2.1 dX12_workOut_65 (lv_at hl 5 rfl) ?_
            have ho21 := ho.1
            have ho := ho.2
            refine r_ald X I (k := 126) (n := 2600) (by decide) rfl ho21 dX12_workOut_67 ?_
            refine lv_goto (tgt := 83) X.1 X.2.1 dX12_workOut_68 (by decide) ?_
            have ho22 := ho.1
            have ho := ho.2
            refine r_ast X I (k := 133) (n := 80) (by decide) rfl ho22 dX12_workOut_83 (fun H locs I => ?_)
            refine lv_iinc (v := _ + 1) (lv' := [(4, .int _), (0, .ref _), (1, .int _), (2, .int _), (3, .int _), (5, .int _)]) X.1 X.2.1 dX12_workOut_84 hl (k := 4) rfl rfl (by decide) rfl (fun ls hl => ?_)
            refine lv_goto (tgt := 165) X.1 X.2.1 dX12_workOut_87 (by decide) ?_
            refine lv_iinc (v := _ + 1) (lv' := [(5, .int _), (4, .int _), (0, .ref _), (1, .int _), (2, .int _), (3, .int _)]) X.1 X.2.1 dX12_workOut_165 hl (k := 5) rfl rfl (by decide) rfl (fun ls hl => ?_)
            refine lv_goto (tgt := 12) X.1 X.2.1 dX12_workOut_168 (by decide) ?_
            exact ih _ _ _ _ _ _ I (lv_sub hl [2, 3, 4, 5, 1, 0] rfl) ho (Nat.lt_of_lt_of_le (up_dec c_1) (Nat.le_of_lt_succ hm)) (hE.trans (rfl))
set_option maxHeartbeats 4000000 in
set_option maxRecDepth 100000 in
theorem c12_workOut (l : Launch) (G : GT) (σ : SI) (τ : SL) (x1 : Int32) (x2 : Int32) (x3 : Int32) (ho : o12_workOut σ x1 x2 x3) : Mc l yX12_workOut cX12_workOut 6 (some .int) 3 G [.ref (G.2.1 123), .int x1, .int x2, .int x3] σ τ (Qi G (Ei (f12_workOut σ x1 x2 x3).1 (f12_workOut σ x1 x2 x3).2 τ)) := by
  refine m_start (by decide +kernel) (Nat.le_of_ble_eq_true rfl) rfl (fun p e s m args below meth c ls X I hl => ?_)
  have hl : lv_has ls 6 [(0, .ref (G.2.1 123)), (1, .int x1), (2, .int x2), (3, .int x3)] := hl
  obtain ⟨E, hE⟩ : ∃ E, E = (f12_workOut σ x1 x2 x3) := ⟨_, rfl⟩
  rw [← hE]
  unfold o12_workOut at ho
  refine lv_iconst (v := 0) X.1 X.2.1 dX12_workOut_0 (by decide) ?_
  refine lv_istore (lv' := [(4, .int _), (0, .ref _), (1, .int _), (2, .int _), (3, .int _)]) X.1 X.2.1 dX12_workOut_1 hl (by decide) rfl (fun ls hl => ?_)
  refine lv_sipush (v := 520) X.1 X.2.1 dX12_workOut_3 (by decide) ?_
  refine lv_iload_n X.1 X.2.1 dX12_workOut_6 rfl (lv_at hl 2 rfl) ?_
  refine lv_imul X.1 X.2.1 dX12_workOut_7 ?_
  refine lv_iload_n X.1 X.2.1 dX12_workOut_8 rfl (lv_at hl 3 rfl) ?_
  refine lv_iadd X.1 X.2.1 dX12_workOut_9 ?_
  refine lv_istore (lv' := [(5, .int _), (4, .int _), (0, .ref _), (1, .int _), (2, .int _), (3, .int _)]) X.1 X.2.1 dX12_workOut_10 hl (by decide) rfl (fun ls hl => ?_)
  exact c12_workOut_c12 X _ _ _ _ _ _ _ _ _ _ _ I (lv_sub hl [2, 3, 4, 5, 1, 0] rfl) ho (fu1_lt _) (hE.trans (rfl))
