noncomputable def f12_year (σ : SI) : Int32 × SI := if (σ 123 25) = (0 : Int32) then (let r6 := (f12_isRefused σ (0 : Int32)); if r6.1 = true then ((-1 : Int32), r6.2) else (let s7 := (f12_keep r6.2); let s8 := (f12_passYear s7); ((s8 140 12), s8))) else (if (σ 140 12) = (999 : Int32) then (let r3 := (f12_isRefused σ (4 : Int32)); if r3.1 = true then ((-1 : Int32), r3.2) else (let s4 := (f12_keep r3.2); let s5 := (f12_passYear s4); ((s5 140 12), s5))) else (let r0 := (f12_isRefused σ (-1 : Int32)); if r0.1 = true then ((-1 : Int32), r0.2) else (let s1 := (f12_keep r0.2); let s2 := (f12_passYear s1); ((s2 140 12), s2))))
noncomputable def o12_year (σ : SI) : Prop := if (σ 123 25) = (0 : Int32) then ((o12_isRefused σ (0 : Int32)) ∧ (let r6 := (f12_isRefused σ (0 : Int32)); if r6.1 = true then True else ((o12_keep r6.2) ∧ (let s7 := (f12_keep r6.2); (o12_passYear s7) ∧ (let s8 := (f12_passYear s7); True))))) else (if (σ 140 12) = (999 : Int32) then ((o12_isRefused σ (4 : Int32)) ∧ (let r3 := (f12_isRefused σ (4 : Int32)); if r3.1 = true then True else ((o12_keep r3.2) ∧ (let s4 := (f12_keep r3.2); (o12_passYear s4) ∧ (let s5 := (f12_passYear s4); True))))) else ((o12_isRefused σ (-1 : Int32)) ∧ (let r0 := (f12_isRefused σ (-1 : Int32)); if r0.1 = true then True else ((o12_keep r0.2) ∧ (let s1 := (f12_keep r0.2); (o12_passYear s1) ∧ (let s2 := (f12_passYear s1); True))))))
theorem w_f12_year (σ : SI) (a : Nat) (h0 : a ≠ 123) (h1 : a ≠ 140) (h2 : a ≠ 141) (h3 : a ≠ 142) : (f12_year σ).2 a = σ a := by
  refine fp_to2 ?_
  unfold f12_year
  exact (fr_ite2 (fr_ite2 (fr_mk21 (w_f12_isRefused _ _ a h2)) (fr_mk21 ((w_f12_passYear _ a h1).trans ((w_f12_keep _ a h0 h3).trans (w_f12_isRefused _ _ a h2))))) (fr_ite2 (fr_ite2 (fr_mk21 (w_f12_isRefused _ _ a h2)) (fr_mk21 ((w_f12_passYear _ a h1).trans ((w_f12_keep _ a h0 h3).trans (w_f12_isRefused _ _ a h2))))) (fr_ite2 (fr_mk21 (w_f12_isRefused _ _ a h2)) (fr_mk21 ((w_f12_passYear _ a h1).trans ((w_f12_keep _ a h0 h3).trans (w_f12_isRefused _ _ a h2)))))))
set_option maxHeartbeats 4000000 in
set_option maxRecDepth 100000 in
theorem c12_year (l : Launch) (G : GT) (σ : SI) (τ : SL) (ho : o12_year σ) : Mc l yX12_year cX12_year 1 (some .int) 3 G [.ref (G.2.1 123)] σ τ (Qi G (Ei (f12_year σ).1 (f12_year σ).2 τ)) := by
  refine m_start (by decide +kernel) (Nat.le_of_ble_eq_true rfl) rfl (fun p e s m args below meth c ls X I hl => ?_)
  have hl : lv_has ls 1 [(0, .ref (G.2.1 123))] := hl
  obtain ⟨E, hE⟩ : ∃ E, E = (f12_year σ) := ⟨_, rfl⟩
  rw [← hE]
  unfold o12_year at ho
  refine lv_aload_n X.1 X.2.1 dX12_year_0 rfl (lv_at hl 0 rfl) ?_
  refine lv_aload_n X.1 X.2.1 dX12_year_1 rfl (lv_at hl 0 rfl) ?_
  refine g12_25 X I (k := 123) (by decide) rfl lf_X12_264 dX12_year_2 ?_
  refine lv_if_ne (tgt := 12) X.1 X.2.1 dX12_year_5 (by decide) (fun c_1 => ?_) (fun c_1 => ?_)
  · skip
    have hE := ite_f hE c_1
    have ho := ite_fP ho c_1
    refine lv_aload_n X.1 X.2.1 dX12_year_12 rfl (lv_at hl 0 rfl) ?_
    refine g12_27 X I (k := 123) (by decide) rfl lf_X12_58 dX12_year_13 ?_
    refine lv_bipush (v := 12) X.1 X.2.1 dX12_year_16 (by decide) ?_
    refine r_ald X I (k := 140) (n := 255) (by decide) rfl (by unfold vp_in; decide) dX12_year_18 ?_
    refine lv_sipush (v := 999) X.1 X.2.1 dX12_year_19 (by decide) ?_
    refine lv_icmp_ne (tgt := 29) X.1 X.2.1 dX12_year_22 (by decide) (fun c_2 => ?_) (fun c_2 => ?_)
    · skip
      have hE := ite_f hE c_2
      have ho := ite_fP ho c_2
      refine lv_iconst (v := (-1)) X.1 X.2.1 dX12_year_29 (by decide) ?_
      have ho1 := ho.1
      have ho := ho.2
      refine r_ei I (r_runV X I pk_X12_isRefused (c12_isRefused l G _ _ _ ho1) lm_X12_347 (by decide) (cl_12 rfl) rfl rfl rfl hl.1 rfl (Nat.le_of_ble_eq_true rfl) dX12_year_30 ⟨Nat.le_of_ble_eq_true rfl, Nat.le_of_ble_eq_true rfl⟩ ⟨Nat.le_refl 0, Nat.le_refl 0⟩) (fun H locs I => ?_)
      refine lv_if_eq (tgt := 38) X.1 X.2.1 dX12_year_33 (by decide) (fun c_3 => ?_) (fun c_3 => ?_)
      · skip
        have hE := ite_f hE (b2i_n c_3)
        have ho := ite_fP ho (b2i_n c_3)
        refine lv_aload_n X.1 X.2.1 dX12_year_38 rfl (lv_at hl 0 rfl) ?_
        have ho2 := ho.1
        have ho := ho.2
        refine r_ev I (r_runV X I pk_X12_keep (c12_keep l G _ _ ho2) lm_X12_350 (by decide) (cl_12 rfl) rfl rfl rfl hl.1 rfl (Nat.le_of_ble_eq_true rfl) dX12_year_39 ⟨Nat.le_of_ble_eq_true rfl, Nat.le_of_ble_eq_true rfl⟩ ⟨Nat.le_refl 0, Nat.le_refl 0⟩) (fun H locs I => ?_)
        refine lv_aload_n X.1 X.2.1 dX12_year_42 rfl (lv_at hl 0 rfl) ?_
        have ho3 := ho.1
        have ho := ho.2
        refine r_ev I (r_runV X I pk_X12_passYear (c12_passYear l G _ _ ho3) lm_X12_356 (by decide) (cl_12 rfl) rfl rfl rfl hl.1 rfl (Nat.le_of_ble_eq_true rfl) dX12_year_43 ⟨Nat.le_of_ble_eq_true rfl, Nat.le_of_ble_eq_true rfl⟩ ⟨Nat.le_refl 0, Nat.le_refl 0⟩) (fun H locs I => ?_)
        refine lv_aload_n X.1 X.2.1 dX12_year_46 rfl (lv_at hl 0 rfl) ?_
        refine g12_27 X I (k := 123) (by decide) rfl lf_X12_58 dX12_year_47 ?_
        refine lv_bipush (v := 12) X.1 X.2.1 dX12_year_50 (by decide) ?_
        refine r_ald X I (k := 140) (n := 255) (by decide) rfl (by unfold vp_in; decide) dX12_year_52 ?_
        have h9 := hE
        exact r_iret X I (e_i (pr_fst h9) (pr_snd h9) rfl) dX12_year_53
      · skip
        have hE := ite_t hE (b2i_y c_3)
        have ho := ite_tP ho (b2i_y c_3)
        refine lv_iconst (v := (-1)) X.1 X.2.1 dX12_year_36 (by decide) ?_
        have h9 := hE
        exact r_iret X I (e_i (pr_fst h9) (pr_snd h9) rfl) dX12_year_37
    · skip
      have hE := ite_t hE c_2
      have ho := ite_tP ho c_2
      refine lv_iconst (v := 4) X.1 X.2.1 dX12_year_25 (by decide) ?_
      refine lv_goto (tgt := 30) X.1 X.2.1 dX12_year_26 (by decide) ?_
      have ho4 := ho.1
      have ho := ho.2
      refine r_ei I (r_runV X I pk_X12_isRefused (c12_isRefused l G _ _ _ ho4) lm_X12_347 (by decide) (cl_12 rfl) rfl rfl rfl hl.1 rfl (Nat.le_of_ble_eq_true rfl) dX12_year_30 ⟨Nat.le_of_ble_eq_true rfl, Nat.le_of_ble_eq_true rfl⟩ ⟨Nat.le_refl 0, Nat.le_refl 0⟩) (fun H locs I => ?_)
      refine lv_if_eq (tgt := 38) X.1 X.2.1 dX12_year_33 (by decide) (fun c_4 => ?_) (fun c_4 => ?_)
      · skip
        have hE := ite_f hE (b2i_n c_4)
        have ho := ite_fP ho (b2i_n c_4)
        refine lv_aload_n X.1 X.2.1 dX12_year_38 rfl (lv_at hl 0 rfl) ?_
        have ho5 := ho.1
        have ho := ho.2
        refine r_ev I (r_runV X I pk_X12_keep (c12_keep l G _ _ ho5) lm_X12_350 (by decide) (cl_12 rfl) rfl rfl rfl hl.1 rfl (Nat.le_of_ble_eq_true rfl) dX12_year_39 ⟨Nat.le_of_ble_eq_true rfl, Nat.le_of_ble_eq_true rfl⟩ ⟨Nat.le_refl 0, Nat.le_refl 0⟩) (fun H locs I => ?_)
        refine lv_aload_n X.1 X.2.1 dX12_year_42 rfl (lv_at hl 0 rfl) ?_
        have ho6 := ho.1
        have ho := ho.2
        refine r_ev I (r_runV X I pk_X12_passYear (c12_passYear l G _ _ ho6) lm_X12_356 (by decide) (cl_12 rfl) rfl rfl rfl hl.1 rfl (Nat.le_of_ble_eq_true rfl) dX12_year_43 ⟨Nat.le_of_ble_eq_true rfl, Nat.le_of_ble_eq_true rfl⟩ ⟨Nat.le_refl 0, Nat.le_refl 0⟩) (fun H locs I => ?_)
        refine lv_aload_n X.1 X.2.1 dX12_year_46 rfl (lv_at hl 0 rfl) ?_
        refine g12_27 X I (k := 123) (by decide) rfl lf_X12_58 dX12_year_47 ?_
        refine lv_bipush (v := 12) X.1 X.2.1 dX12_year_50 (by decide) ?_
        refine r_ald X I (k := 140) (n := 255) (by decide) rfl (by unfold vp_in; decide) dX12_year_52 ?_
        have h9 := hE
        exact r_iret X I (e_i (pr_fst h9) (pr_snd h9) rfl) dX12_year_53
      · skip
        have hE := ite_t hE (b2i_y c_4)
        have ho := ite_tP ho (b2i_y c_4)
        refine lv_iconst (v := (-1)) X.1 X.2.1 dX12_year_36 (by decide) ?_
        have h9 := hE
        exact r_iret X I (e_i (pr_fst h9) (pr_snd h9) rfl) dX12_year_37
  · skip
    have hE := ite_t hE c_1
    have ho := ite_tP ho c_1
    refine lv_iconst (v := 0) X.1 X.2.1 dX12_year_8 (by decide) ?_
    refine lv_goto (tgt := 30) X.1 X.2.1 dX12_year_9 (by decide) ?_
    have ho7 := ho.1
    have ho := ho.2
    refine r_ei I (r_runV X I pk_X12_isRefused (c12_isRefused l G _ _ _ ho7) lm_X12_347 (by decide) (cl_12 rfl) rfl rfl rfl hl.1 rfl (Nat.le_of_ble_eq_true rfl) dX12_year_30 ⟨Nat.le_of_ble_eq_true rfl, Nat.le_of_ble_eq_true rfl⟩ ⟨Nat.le_refl 0, Nat.le_refl 0⟩) (fun H locs I => ?_)
    refine lv_if_eq (tgt := 38) X.1 X.2.1 dX12_year_33 (by decide) (fun c_5 => ?_) (fun c_5 => ?_)
    · skip
      have hE := ite_f hE (b2i_n c_5)
      have ho := ite_fP ho (b2i_n c_5)
      refine lv_aload_n X.1 X.2.1 dX12_year_38 rfl (lv_at hl 0 rfl) ?_
      have ho8 := ho.1
      have ho := ho.2
      refine r_ev I (r_runV X I pk_X12_keep (c12_keep l G _ _ ho8) lm_X12_350 (by decide) (cl_12 rfl) rfl rfl rfl hl.1 rfl (Nat.le_of_ble_eq_true rfl) dX12_year_39 ⟨Nat.le_of_ble_eq_true rfl, Nat.le_of_ble_eq_true rfl⟩ ⟨Nat.le_refl 0, Nat.le_refl 0⟩) (fun H locs I => ?_)
      refine lv_aload_n X.1 X.2.1 dX12_year_42 rfl (lv_at hl 0 rfl) ?_
      have ho9 := ho.1
      have ho := ho.2
      refine r_ev I (r_runV X I pk_X12_passYear (c12_passYear l G _ _ ho9) lm_X12_356 (by decide) (cl_12 rfl) rfl rfl rfl hl.1 rfl (Nat.le_of_ble_eq_true rfl) dX12_year_43 ⟨Nat.le_of_ble_eq_true rfl, Nat.le_of_ble_eq_true rfl⟩ ⟨Nat.le_refl 0, Nat.le_refl 0⟩) (fun H locs I => ?_)
      refine lv_aload_n X.1 X.2.1 dX12_year_46 rfl (lv_at hl 0 rfl) ?_
      refine g12_27 X I (k := 123) (by decide) rfl lf_X12_58 dX12_year_47 ?_
      refine lv_bipush (v := 12) X.1 X.2.1 dX12_year_50 (by decide) ?_
      refine r_ald X I (k := 140) (n := 255) (by decide) rfl (by unfold vp_in; decide) dX12_year_52 ?_
      have h9 := hE
      exact r_iret X I (e_i (pr_fst h9) (pr_snd h9) rfl) dX12_year_53
    · skip
      have hE := ite_t hE (b2i_y c_5)
      have ho := ite_tP ho (b2i_y c_5)
      refine lv_iconst (v := (-1)) X.1 X.2.1 dX12_year_36 (by decide) ?_
      have h9 := hE
      exact r_iret X I (e_i (pr_fst h9) (pr_snd h9) rfl) dX12_year_37
noncomputable def f12_faith (σ : SI) (x1 : Int32) : Bool × SI := if (f12_in x1 (0 : Int32) (9 : Int32)) = true then (if x1 = (σ 123 30) then (false, σ) else (let s0 := sp σ 123 30 x1; (true, s0))) else (false, σ)
theorem w_f12_faith (σ : SI) (x1 : Int32) (a : Nat) (h0 : a ≠ 123) : (f12_faith σ x1).2 a = σ a := by
  refine fp_to2 ?_
  unfold f12_faith
  exact (fr_ite2 (fr_ite2 (fr_mk21 rfl) (fr_mk21 (sp_n h0))) (fr_mk21 rfl))
set_option maxHeartbeats 4000000 in
set_option maxRecDepth 100000 in
theorem c12_faith (l : Launch) (G : GT) (σ : SI) (τ : SL) (x1 : Int32) : Mc l yX12_faith cX12_faith 2 (some .boolean) 1 G [.ref (G.2.1 123), .int x1] σ τ (Qi G (Ei (b2i (f12_faith σ x1).1) (f12_faith σ x1).2 τ)) := by
  refine m_start (by decide +kernel) (Nat.le_of_ble_eq_true rfl) rfl (fun p e s m args below meth c ls X I hl => ?_)
  have hl : lv_has ls 2 [(0, .ref (G.2.1 123)), (1, .int x1)] := hl
  obtain ⟨E, hE⟩ : ∃ E, E = (f12_faith σ x1) := ⟨_, rfl⟩
  rw [← hE]
  refine lv_iload_n X.1 X.2.1 dX12_faith_0 rfl (lv_at hl 1 rfl) ?_
  refine lv_iconst (v := 0) X.1 X.2.1 dX12_faith_1 (by decide) ?_
  refine lv_bipush (v := 9) X.1 X.2.1 dX12_faith_2 (by decide) ?_
  refine r_ei I (r_runS X I pk_X12_in (c12_in l G _ _ _ _ _) lm_X12_220 rfl hl.1 rfl (Nat.le_of_ble_eq_true rfl) dX12_faith_4 ⟨Nat.le_of_ble_eq_true rfl, Nat.le_of_ble_eq_true rfl⟩ ⟨Nat.le_refl 0, Nat.le_refl 0⟩) (fun H locs I => ?_)
  refine lv_if_eq (tgt := 18) X.1 X.2.1 dX12_faith_7 (by decide) (fun c_1 => ?_) (fun c_1 => ?_)
  · skip
    have hE := ite_f hE (b2i_n c_1)
    refine lv_iconst (v := 0) X.1 X.2.1 dX12_faith_18 (by decide) ?_
    have h9 := hE
    exact r_zret X I rfl (e_i (congrArg b2i (pr_fst (a := false) h9)) (pr_snd h9) rfl) dX12_faith_19
  · skip
    have hE := ite_t hE (b2i_y c_1)
    refine lv_iload_n X.1 X.2.1 dX12_faith_10 rfl (lv_at hl 1 rfl) ?_
    refine lv_aload_n X.1 X.2.1 dX12_faith_11 rfl (lv_at hl 0 rfl) ?_
    refine g12_30 X I (k := 123) (by decide) rfl lf_X12_68 dX12_faith_12 ?_
    refine lv_icmp_ne (tgt := 20) X.1 X.2.1 dX12_faith_15 (by decide) (fun c_2 => ?_) (fun c_2 => ?_)
    · skip
      have hE := ite_f hE c_2
      refine lv_aload_n X.1 X.2.1 dX12_faith_20 rfl (lv_at hl 0 rfl) ?_
      refine lv_iload_n X.1 X.2.1 dX12_faith_21 rfl (lv_at hl 1 rfl) ?_
      refine p12_30 X I (k := 123) (by decide) rfl lf_X12_68 dX12_faith_22 (fun H locs I => ?_)
      refine lv_iconst (v := 1) X.1 X.2.1 dX12_faith_25 (by decide) ?_
      have h9 := hE
      exact r_zret X I rfl (e_i (congrArg b2i (pr_fst (a := true) h9)) (pr_snd h9) rfl) dX12_faith_26
    · skip
      have hE := ite_t hE c_2
      refine lv_iconst (v := 0) X.1 X.2.1 dX12_faith_18 (by decide) ?_
      have h9 := hE
      exact r_zret X I rfl (e_i (congrArg b2i (pr_fst (a := false) h9)) (pr_snd h9) rfl) dX12_faith_19
noncomputable def f12_draw (τ : SL) (x1 : Int32) : Int32 × SL := let t0 := sl τ 123 (((τ 123) * (6364136223846793005 : Int64)) + (1442695040888963407 : Int64)); ((Int64.toInt32 (((Int64.toUInt64 (t0 123) >>> ((Int32.toInt64 (33 : Int32)).toUInt64 &&& Int64.toUInt64 63)).toInt64) - ((Int64.toUInt64 (t0 123) >>> ((Int32.toInt64 (33 : Int32)).toUInt64 &&& Int64.toUInt64 63)).toInt64) / (Int32.toInt64 x1) * (Int32.toInt64 x1))), t0)
noncomputable def o12_draw (τ : SL) (x1 : Int32) : Prop := let t0 := sl τ 123 (((τ 123) * (6364136223846793005 : Int64)) + (1442695040888963407 : Int64)); ((Int32.toInt64 x1) ≠ 0) ∧ True
set_option maxHeartbeats 4000000 in
set_option maxRecDepth 100000 in
theorem c12_draw (l : Launch) (G : GT) (σ : SI) (τ : SL) (x1 : Int32) (ho : o12_draw τ x1) : Mc l yX12_draw cX12_draw 2 (some .int) 0 G [.ref (G.2.1 123), .int x1] σ τ (Qi G (Ei (f12_draw τ x1).1 σ (f12_draw τ x1).2)) := by
  refine m_start (by decide +kernel) (Nat.le_of_ble_eq_true rfl) rfl (fun p e s m args below meth c ls X I hl => ?_)
  have hl : lv_has ls 2 [(0, .ref (G.2.1 123)), (1, .int x1)] := hl
  obtain ⟨E, hE⟩ : ∃ E, E = (f12_draw τ x1) := ⟨_, rfl⟩
  rw [← hE]
  unfold o12_draw at ho
  refine lv_aload_n X.1 X.2.1 dX12_draw_0 rfl (lv_at hl 0 rfl) ?_
  refine lv_aload_n X.1 X.2.1 dX12_draw_1 rfl (lv_at hl 0 rfl) ?_
  refine g12_33 X I (k := 123) (by decide) rfl lf_X12_359 dX12_draw_2 ?_
  refine lv_ldc2 X.1 X.2.1 (v := 6364136223846793005) X.2.2.2.2.1 (X.2.2.2.1 _ lq_X12_363) dX12_draw_5 ?_
  refine lv_lmul X.1 X.2.1 dX12_draw_8 ?_
  refine lv_ldc2 X.1 X.2.1 (v := 1442695040888963407) X.2.2.2.2.1 (X.2.2.2.1 _ lq_X12_365) dX12_draw_9 ?_
  refine lv_ladd X.1 X.2.1 dX12_draw_12 ?_
  refine p12_33 X I (k := 123) (by decide) rfl lf_X12_359 dX12_draw_13 (fun H locs I => ?_)
  refine lv_aload_n X.1 X.2.1 dX12_draw_16 rfl (lv_at hl 0 rfl) ?_
  refine g12_33 X I (k := 123) (by decide) rfl lf_X12_359 dX12_draw_17 ?_
  refine lv_bipush (v := 33) X.1 X.2.1 dX12_draw_20 (by decide) ?_
  refine lv_lushr X.1 X.2.1 dX12_draw_22 rfl ?_
  refine lv_iload_n X.1 X.2.1 dX12_draw_23 rfl (lv_at hl 1 rfl) ?_
  refine lv_i2l X.1 X.2.1 dX12_draw_24 rfl ?_
  have ho1 := ho.1
  have ho := ho.2
  refine lv_lrem X.1 X.2.1 dX12_draw_25 ho1 ?_
  refine lv_l2i X.1 X.2.1 dX12_draw_26 rfl ?_
  have h9 := hE
  exact r_iret X I (e_i (pr_fst h9) rfl (pr_snd h9)) dX12_draw_27
noncomputable def f12_drawAct (σ : SI) (τ : SL) : Bool × SI × SL := let r0 := (f12_draw τ (10 : Int32)); if (σ 123 30) ≤ r0.1 then (if (999 : Int32) ≤ (σ 140 12) then (false, σ, r0.2) else (let s1 := (f12_passYear σ); (false, s1, r0.2))) else (let r2 := (f12_draw r0.2 (σ 123 25)); let r3 := (f12_whyNot σ r2.1); if r3.1 = (-1 : Int32) then (let r4 := (f12_carryLogged r3.2 r2.1); (true, r4.2, r2.2)) else (false, r3.2, r2.2))
noncomputable def o12_drawAct (σ : SI) (τ : SL) : Prop := (o12_draw τ (10 : Int32)) ∧ (let r0 := (f12_draw τ (10 : Int32)); if (σ 123 30) ≤ r0.1 then (if (999 : Int32) ≤ (σ 140 12) then True else ((o12_passYear σ) ∧ (let s1 := (f12_passYear σ); True))) else ((o12_draw r0.2 (σ 123 25)) ∧ (let r2 := (f12_draw r0.2 (σ 123 25)); (o12_whyNot σ r2.1) ∧ (let r3 := (f12_whyNot σ r2.1); if r3.1 = (-1 : Int32) then ((o12_carryLogged r3.2 r2.1) ∧ (let r4 := (f12_carryLogged r3.2 r2.1); True)) else True))))
theorem w_f12_drawAct (σ : SI) (τ : SL) (a : Nat) (h0 : a ≠ 132) (h1 : a ≠ 133) (h2 : a ≠ 140) : (f12_drawAct σ τ).2.1 a = σ a := by
  refine fp_to21 ?_
  unfold f12_drawAct
  exact (fr_ite21 (fr_ite21 (fr_mk31 rfl) (fr_mk31 (w_f12_passYear _ a h2))) (fr_ite21 (fr_mk31 ((w_f12_carryLogged _ _ a h0 h1 h2).trans (w_f12_whyNot _ _ a h0 h1))) (fr_mk31 (w_f12_whyNot _ _ a h0 h1))))
set_option maxHeartbeats 4000000 in
set_option maxRecDepth 100000 in
theorem c12_drawAct (l : Launch) (G : GT) (σ : SI) (τ : SL) (ho : o12_drawAct σ τ) : Mc l yX12_drawAct cX12_drawAct 3 (some .boolean) 11 G [.ref (G.2.1 123)] σ τ (Qi G (Ei (b2i (f12_drawAct σ τ).1) (f12_drawAct σ τ).2.1 (f12_drawAct σ τ).2.2)) := by
  refine m_start (by decide +kernel) (Nat.le_of_ble_eq_true rfl) rfl (fun p e s m args below meth c ls X I hl => ?_)
  have hl : lv_has ls 3 [(0, .ref (G.2.1 123))] := hl
  obtain ⟨E, hE⟩ : ∃ E, E = (f12_drawAct σ τ) := ⟨_, rfl⟩
  rw [← hE]
  unfold o12_drawAct at ho
  refine lv_aload_n X.1 X.2.1 dX12_drawAct_0 rfl (lv_at hl 0 rfl) ?_
  refine lv_bipush (v := 10) X.1 X.2.1 dX12_drawAct_1 (by decide) ?_
  have ho1 := ho.1
  have ho := ho.2
  refine r_ei I (r_runV X I pk_X12_draw (c12_draw l G _ _ _ ho1) lm_X12_367 (by decide) (cl_12 rfl) rfl rfl rfl hl.1 rfl (Nat.le_of_ble_eq_true rfl) dX12_drawAct_3 ⟨Nat.le_of_ble_eq_true rfl, Nat.le_of_ble_eq_true rfl⟩ ⟨Nat.le_refl 0, Nat.le_refl 0⟩) (fun H locs I => ?_)
  refine lv_aload_n X.1 X.2.1 dX12_drawAct_6 rfl (lv_at hl 0 rfl) ?_
  refine g12_30 X I (k := 123) (by decide) rfl lf_X12_68 dX12_drawAct_7 ?_
  refine lv_icmp_ge (tgt := 49) X.1 X.2.1 dX12_drawAct_10 (by decide) (fun c_1 => ?_) (fun c_1 => ?_)
  · skip
    have hE := ite_t hE c_1
    have ho := ite_tP ho c_1
    refine lv_aload_n X.1 X.2.1 dX12_drawAct_49 rfl (lv_at hl 0 rfl) ?_
    refine g12_27 X I (k := 123) (by decide) rfl lf_X12_58 dX12_drawAct_50 ?_
    refine lv_bipush (v := 12) X.1 X.2.1 dX12_drawAct_53 (by decide) ?_
    refine r_ald X I (k := 140) (n := 255) (by decide) rfl (by unfold vp_in; decide) dX12_drawAct_55 ?_
    refine lv_sipush (v := 999) X.1 X.2.1 dX12_drawAct_56 (by decide) ?_
    refine lv_icmp_ge (tgt := 66) X.1 X.2.1 dX12_drawAct_59 (by decide) (fun c_2 => ?_) (fun c_2 => ?_)
    · skip
      have hE := ite_t hE c_2
      have ho := ite_tP ho c_2
      refine lv_iconst (v := 0) X.1 X.2.1 dX12_drawAct_66 (by decide) ?_
      have h9 := hE
      exact r_zret X I rfl (e_i (congrArg b2i (pr_1 (a := false) h9)) (pr_2 h9) (pr_3 h9)) dX12_drawAct_67
    · skip
      have hE := ite_f hE c_2
      have ho := ite_fP ho c_2
      refine lv_aload_n X.1 X.2.1 dX12_drawAct_62 rfl (lv_at hl 0 rfl) ?_
      have ho2 := ho.1
      have ho := ho.2
      refine r_ev I (r_runV X I pk_X12_passYear (c12_passYear l G _ _ ho2) lm_X12_356 (by decide) (cl_12 rfl) rfl rfl rfl hl.1 rfl (Nat.le_of_ble_eq_true rfl) dX12_drawAct_63 ⟨Nat.le_of_ble_eq_true rfl, Nat.le_of_ble_eq_true rfl⟩ ⟨Nat.le_refl 0, Nat.le_refl 0⟩) (fun H locs I => ?_)
      refine lv_iconst (v := 0) X.1 X.2.1 dX12_drawAct_66 (by decide) ?_
      have h9 := hE
      exact r_zret X I rfl (e_i (congrArg b2i (pr_1 (a := false) h9)) (pr_2 h9) (pr_3 h9)) dX12_drawAct_67
  · skip
    have hE := ite_f hE c_1
    have ho := ite_fP ho c_1
    refine lv_aload_n X.1 X.2.1 dX12_drawAct_13 rfl (lv_at hl 0 rfl) ?_
    refine lv_aload_n X.1 X.2.1 dX12_drawAct_14 rfl (lv_at hl 0 rfl) ?_
    refine g12_25 X I (k := 123) (by decide) rfl lf_X12_264 dX12_drawAct_15 ?_
    have ho3 := ho.1
    have ho := ho.2
    refine r_ei I (r_runV X I pk_X12_draw (c12_draw l G _ _ _ ho3) lm_X12_367 (by decide) (cl_12 rfl) rfl rfl rfl hl.1 rfl (Nat.le_of_ble_eq_true rfl) dX12_drawAct_18 ⟨Nat.le_of_ble_eq_true rfl, Nat.le_of_ble_eq_true rfl⟩ ⟨Nat.le_refl 0, Nat.le_refl 0⟩) (fun H locs I => ?_)
    refine lv_istore_n (lv' := [(1, .int _), (0, .ref _)]) X.1 X.2.1 dX12_drawAct_21 rfl hl (by decide) rfl (fun ls hl => ?_)
    refine lv_aload_n X.1 X.2.1 dX12_drawAct_22 rfl (lv_at hl 1 rfl) ?_
    refine lv_iload_n X.1 X.2.1 dX12_drawAct_23 rfl (lv_at hl 0 rfl) ?_
    have ho4 := ho.1
    have ho := ho.2
    refine r_ei I (r_runV X I pk_X12_whyNot (c12_whyNot l G _ _ _ ho4) lm_X12_344 (by decide) (cl_12 rfl) rfl rfl rfl hl.1 rfl (Nat.le_of_ble_eq_true rfl) dX12_drawAct_24 ⟨Nat.le_of_ble_eq_true rfl, Nat.le_of_ble_eq_true rfl⟩ ⟨Nat.le_refl 0, Nat.le_refl 0⟩) (fun H locs I => ?_)
    refine lv_iconst (v := (-1)) X.1 X.2.1 dX12_drawAct_27 (by decide) ?_
    refine lv_icmp_ne (tgt := 35) X.1 X.2.1 dX12_drawAct_28 (by decide) (fun c_3 => ?_) (fun c_3 => ?_)
    · skip
      have hE := ite_f hE c_3
      have ho := ite_fP ho c_3
      refine lv_iconst (v := 0) X.1 X.2.1 dX12_drawAct_35 (by decide) ?_
      refine lv_istore_n (lv' := [(2, .int _), (1, .int _), (0, .ref _)]) X.1 X.2.1 dX12_drawAct_36 rfl hl (by decide) rfl (fun ls hl => ?_)
      refine lv_iload_n X.1 X.2.1 dX12_drawAct_37 rfl (lv_at hl 0 rfl) ?_
      refine lv_if_eq (tgt := 47) X.1 X.2.1 dX12_drawAct_38 (by decide) (fun c_4 => ?_) (fun c_4 => ?_)
      · skip
        refine lv_iload_n X.1 X.2.1 dX12_drawAct_47 rfl (lv_at hl 0 rfl) ?_
        have h9 := hE
        exact r_zret X I rfl (e_i (congrArg b2i (pr_1 (a := false) h9)) (pr_2 h9) (pr_3 h9)) dX12_drawAct_48
      · exact absurd c_4 (by decide)
    · skip
      have hE := ite_t hE c_3
      have ho := ite_tP ho c_3
      refine lv_iconst (v := 1) X.1 X.2.1 dX12_drawAct_31 (by decide) ?_
      refine lv_goto (tgt := 36) X.1 X.2.1 dX12_drawAct_32 (by decide) ?_
      refine lv_istore_n (lv' := [(2, .int _), (1, .int _), (0, .ref _)]) X.1 X.2.1 dX12_drawAct_36 rfl hl (by decide) rfl (fun ls hl => ?_)
      refine lv_iload_n X.1 X.2.1 dX12_drawAct_37 rfl (lv_at hl 0 rfl) ?_
      refine lv_if_eq (tgt := 47) X.1 X.2.1 dX12_drawAct_38 (by decide) (fun c_5 => ?_) (fun c_5 => ?_)
      · exact absurd c_5 (by decide)
      · skip
        refine lv_aload_n X.1 X.2.1 dX12_drawAct_41 rfl (lv_at hl 2 rfl) ?_
        refine lv_iload_n X.1 X.2.1 dX12_drawAct_42 rfl (lv_at hl 1 rfl) ?_
        have ho5 := ho.1
        have ho := ho.2
        refine r_ei I (r_runV X I pk_X12_carryLogged (c12_carryLogged l G _ _ _ ho5) lm_X12_353 (by decide) (cl_12 rfl) rfl rfl rfl hl.1 rfl (Nat.le_of_ble_eq_true rfl) dX12_drawAct_43 ⟨Nat.le_of_ble_eq_true rfl, Nat.le_of_ble_eq_true rfl⟩ ⟨Nat.le_refl 0, Nat.le_refl 0⟩) (fun H locs I => ?_)
        refine lv_pop X.1 X.2.1 dX12_drawAct_46 rfl ?_
        refine lv_iload_n X.1 X.2.1 dX12_drawAct_47 rfl (lv_at hl 0 rfl) ?_
        have h9 := hE
        exact r_zret X I rfl (e_i (congrArg b2i (pr_1 (a := true) h9)) (pr_2 h9) (pr_3 h9)) dX12_drawAct_48
