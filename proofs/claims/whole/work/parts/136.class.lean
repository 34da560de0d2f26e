noncomputable def f11_remains (σ : SI) (x1 : Int32) : Int32 × SI := if (f8_isHouse 10 σ x1) = true then (let r0 := (f11_standsNow σ x1 (f0_grievanceOf 24 σ x1)); (((((f8_timeThereIs 10 σ) - (σ 24 2)) - (f11_stepsTo σ x1)) - r0.1), r0.2)) else ((-1000000 : Int32), σ)
theorem w_f11_remains (σ : SI) (x1 : Int32) (a : Nat) (h0 : a ≠ 13) (h1 : a ≠ 15) : (f11_remains σ x1).2 a = σ a := by
  refine fp_to2 ?_
  unfold f11_remains
  exact (fr_ite2 (fr_mk21 (w_f11_standsNow _ _ _ a h0 h1)) (fr_mk21 rfl))
set_option maxHeartbeats 4000000 in
set_option maxRecDepth 100000 in
theorem c11_remains (l : Launch) (G : GT) (σ : SI) (τ : SL) (x1 : Int32) : Mc l yX11_remains cX11_remains 2 (some .int) 5 G [.ref (G.2.1 0), .int x1] σ τ (Qi G (Ei (f11_remains σ x1).1 (f11_remains σ x1).2 τ)) := by
  refine m_start (by decide +kernel) (Nat.le_of_ble_eq_true rfl) rfl (fun p e s m args below meth c ls X I hl => ?_)
  have hl : lv_has ls 2 [(0, .ref (G.2.1 0)), (1, .int x1)] := hl
  obtain ⟨E, hE⟩ : ∃ E, E = (f11_remains σ x1) := ⟨_, rfl⟩
  rw [← hE]
  refine lv_aload_n X.1 X.2.1 dX11_remains_0 rfl (lv_at hl 0 rfl) ?_
  refine g11_3 X I (k := 0) (by decide) rfl lf_X11_35 dX11_remains_1 ?_
  refine lv_iload_n X.1 X.2.1 dX11_remains_4 rfl (lv_at hl 1 rfl) ?_
  refine r_ei I (r_runV X I pk_X8_isHouse (c8_isHouse l G (k := 10) ⟨by decide, rfl, rfl, rfl⟩ _ _ _) lm_X11_169 (by decide) (cl_8 rfl) rfl rfl rfl hl.1 rfl (Nat.le_of_ble_eq_true rfl) dX11_remains_5 ⟨Nat.le_of_ble_eq_true rfl, Nat.le_of_ble_eq_true rfl⟩ ⟨Nat.le_refl 0, Nat.le_refl 0⟩) (fun H locs I => ?_)
  refine lv_if_ne (tgt := 15) X.1 X.2.1 dX11_remains_8 (by decide) (fun c_1 => ?_) (fun c_1 => ?_)
  · skip
    have hE := ite_t hE (b2i_y c_1)
    refine lv_aload_n X.1 X.2.1 dX11_remains_15 rfl (lv_at hl 0 rfl) ?_
    refine g11_3 X I (k := 0) (by decide) rfl lf_X11_35 dX11_remains_16 ?_
    refine r_ei I (r_runV X I pk_X8_timeThereIs (c8_timeThereIs l G (k := 10) ⟨by decide, rfl, rfl, rfl⟩ _ _) lm_X11_157 (by decide) (cl_8 rfl) rfl rfl rfl hl.1 rfl (Nat.le_of_ble_eq_true rfl) dX11_remains_19 ⟨Nat.le_of_ble_eq_true rfl, Nat.le_of_ble_eq_true rfl⟩ ⟨Nat.le_refl 0, Nat.le_refl 0⟩) (fun H locs I => ?_)
    refine lv_aload_n X.1 X.2.1 dX11_remains_22 rfl (lv_at hl 0 rfl) ?_
    refine g11_5 X I (k := 0) (by decide) rfl lf_X11_49 dX11_remains_23 ?_
    refine g0_2 X I (k := 24) (by decide) rfl lf_X11_213 dX11_remains_26 ?_
    refine lv_isub X.1 X.2.1 dX11_remains_29 ?_
    refine lv_aload_n X.1 X.2.1 dX11_remains_30 rfl (lv_at hl 0 rfl) ?_
    refine lv_iload_n X.1 X.2.1 dX11_remains_31 rfl (lv_at hl 1 rfl) ?_
    refine r_ei I (r_runV X I pk_X11_stepsTo (c11_stepsTo l G _ _ _) lm_X11_200 (by decide) (cl_11 rfl) rfl rfl rfl hl.1 rfl (Nat.le_of_ble_eq_true rfl) dX11_remains_32 ⟨Nat.le_of_ble_eq_true rfl, Nat.le_of_ble_eq_true rfl⟩ ⟨Nat.le_refl 0, Nat.le_refl 0⟩) (fun H locs I => ?_)
    refine lv_isub X.1 X.2.1 dX11_remains_35 ?_
    refine lv_aload_n X.1 X.2.1 dX11_remains_36 rfl (lv_at hl 0 rfl) ?_
    refine lv_iload_n X.1 X.2.1 dX11_remains_37 rfl (lv_at hl 1 rfl) ?_
    refine lv_aload_n X.1 X.2.1 dX11_remains_38 rfl (lv_at hl 0 rfl) ?_
    refine g11_5 X I (k := 0) (by decide) rfl lf_X11_49 dX11_remains_39 ?_
    refine lv_iload_n X.1 X.2.1 dX11_remains_42 rfl (lv_at hl 1 rfl) ?_
    refine r_ei I (r_runV X I pk_X0_grievanceOf (c0_grievanceOf l G (k := 24) ⟨by decide, rfl, rfl⟩ _ _ _) lm_X11_182 (by decide) (cl_0 rfl) rfl rfl rfl hl.1 rfl (Nat.le_of_ble_eq_true rfl) dX11_remains_43 ⟨Nat.le_of_ble_eq_true rfl, Nat.le_of_ble_eq_true rfl⟩ ⟨Nat.le_refl 0, Nat.le_refl 0⟩) (fun H locs I => ?_)
    refine r_ei I (r_runV X I pk_X11_standsNow (c11_standsNow l G _ _ _ _) lm_X11_207 (by decide) (cl_11 rfl) rfl rfl rfl hl.1 rfl (Nat.le_of_ble_eq_true rfl) dX11_remains_46 ⟨Nat.le_of_ble_eq_true rfl, Nat.le_of_ble_eq_true rfl⟩ ⟨Nat.le_refl 0, Nat.le_refl 0⟩) (fun H locs I => ?_)
    refine lv_isub X.1 X.2.1 dX11_remains_49 ?_
    have h9 := hE
    exact r_iret X I (e_i (pr_fst h9) (pr_snd h9) rfl) dX11_remains_50
  · skip
    have hE := ite_f hE (b2i_n c_1)
    refine lv_ldcw X.1 X.2.1 (v := (-1000000)) X.2.2.2.2.1 (X.2.2.2.1 _ lq_X11_388) dX11_remains_11 ?_
    have h9 := hE
    exact r_iret X I (e_i (pr_fst h9) (pr_snd h9) rfl) dX11_remains_14
noncomputable def f11_image (σ : SI) : Int32 × SI := if (f8_isTold 10 σ) = true then (let s0 := (f5_draw 24 σ); ((s0 24 6), s0)) else ((-1 : Int32), σ)
theorem w_f11_image (σ : SI) (a : Nat) (h0 : a ≠ 26) (h1 : a ≠ 29) (h2 : a ≠ 30) (h3 : a ≠ 31) : (f11_image σ).2 a = σ a := by
  refine fp_to2 ?_
  unfold f11_image
  exact (fr_ite2 (fr_mk21 (w_f5_draw _ a h0 h1 h2 h3)) (fr_mk21 rfl))
set_option maxHeartbeats 4000000 in
set_option maxRecDepth 100000 in
theorem c11_image (l : Launch) (G : GT) (σ : SI) (τ : SL) : Mc l yX11_image cX11_image 1 (some .int) 4 G [.ref (G.2.1 0)] σ τ (Qi G (Ei (f11_image σ).1 (f11_image σ).2 τ)) := by
  refine m_start (by decide +kernel) (Nat.le_of_ble_eq_true rfl) rfl (fun p e s m args below meth c ls X I hl => ?_)
  have hl : lv_has ls 1 [(0, .ref (G.2.1 0))] := hl
  obtain ⟨E, hE⟩ : ∃ E, E = (f11_image σ) := ⟨_, rfl⟩
  rw [← hE]
  refine lv_aload_n X.1 X.2.1 dX11_image_0 rfl (lv_at hl 0 rfl) ?_
  refine g11_3 X I (k := 0) (by decide) rfl lf_X11_35 dX11_image_1 ?_
  refine r_ei I (r_runV X I pk_X8_isTold (c8_isTold l G (k := 10) ⟨by decide, rfl, rfl, rfl⟩ _ _) lm_X11_154 (by decide) (cl_8 rfl) rfl rfl rfl hl.1 rfl (Nat.le_of_ble_eq_true rfl) dX11_image_4 ⟨Nat.le_of_ble_eq_true rfl, Nat.le_of_ble_eq_true rfl⟩ ⟨Nat.le_refl 0, Nat.le_refl 0⟩) (fun H locs I => ?_)
  refine lv_if_ne (tgt := 12) X.1 X.2.1 dX11_image_7 (by decide) (fun c_1 => ?_) (fun c_1 => ?_)
  · skip
    have hE := ite_t hE (b2i_y c_1)
    refine lv_aload_n X.1 X.2.1 dX11_image_12 rfl (lv_at hl 0 rfl) ?_
    refine g11_6 X I (k := 0) (by decide) rfl lf_X11_56 dX11_image_13 ?_
    refine lv_aload_n X.1 X.2.1 dX11_image_16 rfl (lv_at hl 0 rfl) ?_
    refine g11_5 X I (k := 0) (by decide) rfl lf_X11_49 dX11_image_17 ?_
    refine r_ev I (r_runV X I pk_X5_draw (c5_draw l G (k1 := 24) ⟨by decide, rfl, rfl⟩ _ _) lm_X11_461 (by decide) (cl_5 rfl) rfl rfl rfl hl.1 rfl (Nat.le_of_ble_eq_true rfl) dX11_image_20 ⟨Nat.le_of_ble_eq_true rfl, Nat.le_of_ble_eq_true rfl⟩ ⟨Nat.le_refl 0, Nat.le_refl 0⟩) (fun H locs I => ?_)
    refine lv_aload_n X.1 X.2.1 dX11_image_23 rfl (lv_at hl 0 rfl) ?_
    refine g11_5 X I (k := 0) (by decide) rfl lf_X11_49 dX11_image_24 ?_
    refine g0_6 X I (k := 24) (by decide) rfl lf_X11_219 dX11_image_27 ?_
    have h9 := hE
    exact r_iret X I (e_i (pr_fst h9) (pr_snd h9) rfl) dX11_image_30
  · skip
    have hE := ite_f hE (b2i_n c_1)
    refine lv_iconst (v := (-1)) X.1 X.2.1 dX11_image_10 (by decide) ?_
    have h9 := hE
    exact r_iret X I (e_i (pr_fst h9) (pr_snd h9) rfl) dX11_image_11
noncomputable def f11_back (σ : SI) : Int32 × SI := let r0 := (f5_bringBack 24 σ); if r0.1 = true then ((r0.2 24 6), r0.2) else ((-1 : Int32), r0.2)
theorem w_f11_back (σ : SI) (a : Nat) (h0 : a ≠ 24) (h1 : a ≠ 25) (h2 : a ≠ 26) (h3 : a ≠ 28) : (f11_back σ).2 a = σ a := by
  refine fp_to2 ?_
  unfold f11_back
  exact (fr_ite2 (fr_mk21 (w_f5_bringBack _ a h2 h3 h1 h0)) (fr_mk21 (w_f5_bringBack _ a h2 h3 h1 h0)))
set_option maxHeartbeats 4000000 in
set_option maxRecDepth 100000 in
theorem c11_back (l : Launch) (G : GT) (σ : SI) (τ : SL) : Mc l yX11_back cX11_back 1 (some .int) 4 G [.ref (G.2.1 0)] σ τ (Qi G (Ei (f11_back σ).1 (f11_back σ).2 τ)) := by
  refine m_start (by decide +kernel) (Nat.le_of_ble_eq_true rfl) rfl (fun p e s m args below meth c ls X I hl => ?_)
  have hl : lv_has ls 1 [(0, .ref (G.2.1 0))] := hl
  obtain ⟨E, hE⟩ : ∃ E, E = (f11_back σ) := ⟨_, rfl⟩
  rw [← hE]
  refine lv_aload_n X.1 X.2.1 dX11_back_0 rfl (lv_at hl 0 rfl) ?_
  refine g11_6 X I (k := 0) (by decide) rfl lf_X11_56 dX11_back_1 ?_
  refine lv_aload_n X.1 X.2.1 dX11_back_4 rfl (lv_at hl 0 rfl) ?_
  refine g11_5 X I (k := 0) (by decide) rfl lf_X11_49 dX11_back_5 ?_
  refine r_ei I (r_runV X I pk_X5_bringBack (c5_bringBack l G (k1 := 24) ⟨by decide, rfl, rfl⟩ _ _) lm_X11_463 (by decide) (cl_5 rfl) rfl rfl rfl hl.1 rfl (Nat.le_of_ble_eq_true rfl) dX11_back_8 ⟨Nat.le_of_ble_eq_true rfl, Nat.le_of_ble_eq_true rfl⟩ ⟨Nat.le_refl 0, Nat.le_refl 0⟩) (fun H locs I => ?_)
  refine lv_if_eq (tgt := 24) X.1 X.2.1 dX11_back_11 (by decide) (fun c_1 => ?_) (fun c_1 => ?_)
  · skip
    have hE := ite_f hE (b2i_n c_1)
    refine lv_iconst (v := (-1)) X.1 X.2.1 dX11_back_24 (by decide) ?_
    have h9 := hE
    exact r_iret X I (e_i (pr_fst h9) (pr_snd h9) rfl) dX11_back_25
  · skip
    have hE := ite_t hE (b2i_y c_1)
    refine lv_aload_n X.1 X.2.1 dX11_back_14 rfl (lv_at hl 0 rfl) ?_
    refine g11_5 X I (k := 0) (by decide) rfl lf_X11_49 dX11_back_15 ?_
    refine g0_6 X I (k := 24) (by decide) rfl lf_X11_219 dX11_back_18 ?_
    refine lv_goto (tgt := 25) X.1 X.2.1 dX11_back_21 (by decide) ?_
    have h9 := hE
    exact r_iret X I (e_i (pr_fst h9) (pr_snd h9) rfl) dX11_back_25
noncomputable def f11_countNow (σ : SI) (x1 : Int32) : Int32 := if x1 = 5 then (σ 24 6) else (if x1 = 6 then (σ 24 2) else (if x1 = 7 then (σ 24 4) else (if x1 = 8 then (f0_doors 24 σ) else (if x1 = 9 then (σ 24 3) else (if x1 = 10 then (σ 24 7) else (if x1 = 14 then (f0_logLength 24 σ) else (-1000000 : Int32)))))))
set_option maxHeartbeats 4000000 in
set_option maxRecDepth 100000 in
theorem c11_countNow (l : Launch) (G : GT) (σ : SI) (τ : SL) (x1 : Int32) : Mc l yX11_countNow cX11_countNow 2 (some .int) 2 G [.ref (G.2.1 0), .int x1] σ τ (Qi G (Ei (f11_countNow σ x1) σ τ)) := by
  refine m_start (by decide +kernel) (Nat.le_of_ble_eq_true rfl) rfl (fun p e s m args below meth c ls X I hl => ?_)
  have hl : lv_has ls 2 [(0, .ref (G.2.1 0)), (1, .int x1)] := hl
  obtain ⟨E, hE⟩ : ∃ E, E = (f11_countNow σ x1) := ⟨_, rfl⟩
  rw [← hE]
  refine lv_iload_n X.1 X.2.1 dX11_countNow_0 rfl (lv_at hl 1 rfl) ?_
  rcases Classical.em (x1 = 5) with c_1 | c_1
  · skip
    have hE := ite_t hE c_1
    refine lv_tableIn (off := 55) (tgt := 56) X.1 X.2.1 dX11_countNow_1 (by rw [c_1]; decide) (by rw [c_1]; decide) (by rw [c_1]; decide) (by decide) ?_
    refine lv_aload_n X.1 X.2.1 dX11_countNow_56 rfl (lv_at hl 0 rfl) ?_
    refine g11_5 X I (k := 0) (by decide) rfl lf_X11_49 dX11_countNow_57 ?_
    refine g0_6 X I (k := 24) (by decide) rfl lf_X11_219 dX11_countNow_60 ?_
    have h9 := hE
    exact r_iret X I (e_i h9.symm rfl rfl) dX11_countNow_63
  have hE := ite_f hE c_1
  rcases Classical.em (x1 = 6) with c_2 | c_2
  · skip
    have hE := ite_t hE c_2
    refine lv_tableIn (off := 63) (tgt := 64) X.1 X.2.1 dX11_countNow_1 (by rw [c_2]; decide) (by rw [c_2]; decide) (by rw [c_2]; decide) (by decide) ?_
    refine lv_aload_n X.1 X.2.1 dX11_countNow_64 rfl (lv_at hl 0 rfl) ?_
    refine g11_5 X I (k := 0) (by decide) rfl lf_X11_49 dX11_countNow_65 ?_
    refine g0_2 X I (k := 24) (by decide) rfl lf_X11_213 dX11_countNow_68 ?_
    have h9 := hE
    exact r_iret X I (e_i h9.symm rfl rfl) dX11_countNow_71
  have hE := ite_f hE c_2
  rcases Classical.em (x1 = 7) with c_3 | c_3
  · skip
    have hE := ite_t hE c_3
    refine lv_tableIn (off := 71) (tgt := 72) X.1 X.2.1 dX11_countNow_1 (by rw [c_3]; decide) (by rw [c_3]; decide) (by rw [c_3]; decide) (by decide) ?_
    refine lv_aload_n X.1 X.2.1 dX11_countNow_72 rfl (lv_at hl 0 rfl) ?_
    refine g11_5 X I (k := 0) (by decide) rfl lf_X11_49 dX11_countNow_73 ?_
    refine g0_4 X I (k := 24) (by decide) rfl lf_X11_210 dX11_countNow_76 ?_
    have h9 := hE
    exact r_iret X I (e_i h9.symm rfl rfl) dX11_countNow_79
  have hE := ite_f hE c_3
  rcases Classical.em (x1 = 8) with c_4 | c_4
  · skip
    have hE := ite_t hE c_4
    refine lv_tableIn (off := 79) (tgt := 80) X.1 X.2.1 dX11_countNow_1 (by rw [c_4]; decide) (by rw [c_4]; decide) (by rw [c_4]; decide) (by decide) ?_
    refine lv_aload_n X.1 X.2.1 dX11_countNow_80 rfl (lv_at hl 0 rfl) ?_
    refine g11_5 X I (k := 0) (by decide) rfl lf_X11_49 dX11_countNow_81 ?_
    refine r_ei I (r_runV X I pk_X0_doors (c0_doors l G (k := 24) ⟨by decide, rfl, rfl⟩ _ _) lm_X11_216 (by decide) (cl_0 rfl) rfl rfl rfl hl.1 rfl (Nat.le_of_ble_eq_true rfl) dX11_countNow_84 ⟨Nat.le_of_ble_eq_true rfl, Nat.le_of_ble_eq_true rfl⟩ ⟨Nat.le_refl 0, Nat.le_refl 0⟩) (fun H locs I => ?_)
    have h9 := hE
    exact r_iret X I (e_i h9.symm rfl rfl) dX11_countNow_87
  have hE := ite_f hE c_4
  rcases Classical.em (x1 = 9) with c_5 | c_5
  · skip
    have hE := ite_t hE c_5
    refine lv_tableIn (off := 87) (tgt := 88) X.1 X.2.1 dX11_countNow_1 (by rw [c_5]; decide) (by rw [c_5]; decide) (by rw [c_5]; decide) (by decide) ?_
    refine lv_aload_n X.1 X.2.1 dX11_countNow_88 rfl (lv_at hl 0 rfl) ?_
    refine g11_5 X I (k := 0) (by decide) rfl lf_X11_49 dX11_countNow_89 ?_
    refine g0_3 X I (k := 24) (by decide) rfl lf_X11_249 dX11_countNow_92 ?_
    have h9 := hE
    exact r_iret X I (e_i h9.symm rfl rfl) dX11_countNow_95
  have hE := ite_f hE c_5
  rcases Classical.em (x1 = 10) with c_6 | c_6
  · skip
    have hE := ite_t hE c_6
    refine lv_tableIn (off := 95) (tgt := 96) X.1 X.2.1 dX11_countNow_1 (by rw [c_6]; decide) (by rw [c_6]; decide) (by rw [c_6]; decide) (by decide) ?_
    refine lv_aload_n X.1 X.2.1 dX11_countNow_96 rfl (lv_at hl 0 rfl) ?_
    refine g11_5 X I (k := 0) (by decide) rfl lf_X11_49 dX11_countNow_97 ?_
    refine g0_7 X I (k := 24) (by decide) rfl lf_X11_259 dX11_countNow_100 ?_
    have h9 := hE
    exact r_iret X I (e_i h9.symm rfl rfl) dX11_countNow_103
  have hE := ite_f hE c_6
  rcases Classical.em (x1 = 14) with c_7 | c_7
  · skip
    have hE := ite_t hE c_7
    refine lv_tableIn (off := 103) (tgt := 104) X.1 X.2.1 dX11_countNow_1 (by rw [c_7]; decide) (by rw [c_7]; decide) (by rw [c_7]; decide) (by decide) ?_
    refine lv_aload_n X.1 X.2.1 dX11_countNow_104 rfl (lv_at hl 0 rfl) ?_
    refine g11_5 X I (k := 0) (by decide) rfl lf_X11_49 dX11_countNow_105 ?_
    refine r_ei I (r_runV X I pk_X0_logLength (c0_logLength l G (k := 24) ⟨by decide, rfl, rfl⟩ _ _) lm_X11_472 (by decide) (cl_0 rfl) rfl rfl rfl hl.1 rfl (Nat.le_of_ble_eq_true rfl) dX11_countNow_108 ⟨Nat.le_of_ble_eq_true rfl, Nat.le_of_ble_eq_true rfl⟩ ⟨Nat.le_refl 0, Nat.le_refl 0⟩) (fun H locs I => ?_)
    have h9 := hE
    exact r_iret X I (e_i h9.symm rfl rfl) dX11_countNow_111
  have hE := ite_f hE c_7
  refine lv_tableD (L := [5, 6, 7, 8, 9, 10, 14]) (tgt := 112) X.1 X.2.1 dX11_countNow_1 (by decide) (List.forall_mem_cons.mpr ⟨c_1, (List.forall_mem_cons.mpr ⟨c_2, (List.forall_mem_cons.mpr ⟨c_3, (List.forall_mem_cons.mpr ⟨c_4, (List.forall_mem_cons.mpr ⟨c_5, (List.forall_mem_cons.mpr ⟨c_6, (List.forall_mem_cons.mpr ⟨c_7, (fun _ h => absurd h List.not_mem_nil)⟩)⟩)⟩)⟩)⟩)⟩)⟩) (by decide) ?_
  refine lv_ldcw X.1 X.2.1 (v := (-1000000)) X.2.2.2.2.1 (X.2.2.2.1 _ lq_X11_388) dX11_countNow_112 ?_
  have h9 := hE
  exact r_iret X I (e_i h9.symm rfl rfl) dX11_countNow_115
noncomputable def f11_count (σ : SI) (x1 : Int32) : Int32 := if x1 = 0 then (f8_houses 10 σ) else (if x1 = 1 then (f8_bearers 10 σ) else (if x1 = 2 then (f2_number σ) else (if x1 = 3 then (f7_size σ) else (if x1 = 4 then (f2_holding σ) else (if x1 = 11 then (σ 0 14) else (if x1 = 12 then (f10_stoods σ) else (if x1 = 13 then (f10_seens σ) else (if x1 = 15 then (f5_kept σ) else (f11_countNow σ x1)))))))))
set_option maxHeartbeats 4000000 in
set_option maxRecDepth 100000 in
theorem c11_count (l : Launch) (G : GT) (σ : SI) (τ : SL) (x1 : Int32) : Mc l yX11_count cX11_count 2 (some .int) 3 G [.ref (G.2.1 0), .int x1] σ τ (Qi G (Ei (f11_count σ x1) σ τ)) := by
  refine m_start (by decide +kernel) (Nat.le_of_ble_eq_true rfl) rfl (fun p e s m args below meth c ls X I hl => ?_)
  have hl : lv_has ls 2 [(0, .ref (G.2.1 0)), (1, .int x1)] := hl
  obtain ⟨E, hE⟩ : ∃ E, E = (f11_count σ x1) := ⟨_, rfl⟩
  rw [← hE]
  refine lv_iload_n X.1 X.2.1 dX11_count_0 rfl (lv_at hl 1 rfl) ?_
  rcases Classical.em (x1 = 0) with c_1 | c_1
  · skip
    have hE := ite_t hE c_1
    refine lv_tableIn (off := 79) (tgt := 80) X.1 X.2.1 dX11_count_1 (by rw [c_1]; decide) (by rw [c_1]; decide) (by rw [c_1]; decide) (by decide) ?_
    refine lv_aload_n X.1 X.2.1 dX11_count_80 rfl (lv_at hl 0 rfl) ?_
    refine g11_3 X I (k := 0) (by decide) rfl lf_X11_35 dX11_count_81 ?_
    refine r_ei I (r_runV X I pk_X8_houses (c8_houses l G (k := 10) ⟨by decide, rfl, rfl, rfl⟩ _ _) lm_X11_151 (by decide) (cl_8 rfl) rfl rfl rfl hl.1 rfl (Nat.le_of_ble_eq_true rfl) dX11_count_84 ⟨Nat.le_of_ble_eq_true rfl, Nat.le_of_ble_eq_true rfl⟩ ⟨Nat.le_refl 0, Nat.le_refl 0⟩) (fun H locs I => ?_)
    have h9 := hE
    exact r_iret X I (e_i h9.symm rfl rfl) dX11_count_87
  have hE := ite_f hE c_1
  rcases Classical.em (x1 = 1) with c_2 | c_2
  · skip
    have hE := ite_t hE c_2
    refine lv_tableIn (off := 87) (tgt := 88) X.1 X.2.1 dX11_count_1 (by rw [c_2]; decide) (by rw [c_2]; decide) (by rw [c_2]; decide) (by decide) ?_
    refine lv_aload_n X.1 X.2.1 dX11_count_88 rfl (lv_at hl 0 rfl) ?_
    refine g11_3 X I (k := 0) (by decide) rfl lf_X11_35 dX11_count_89 ?_
    refine r_ei I (r_runV X I pk_X8_bearers (c8_bearers l G (k := 10) ⟨by decide, rfl, rfl, rfl⟩ _ _) lm_X11_191 (by decide) (cl_8 rfl) rfl rfl rfl hl.1 rfl (Nat.le_of_ble_eq_true rfl) dX11_count_92 ⟨Nat.le_of_ble_eq_true rfl, Nat.le_of_ble_eq_true rfl⟩ ⟨Nat.le_refl 0, Nat.le_refl 0⟩) (fun H locs I => ?_)
    have h9 := hE
    exact r_iret X I (e_i h9.symm rfl rfl) dX11_count_95
  have hE := ite_f hE c_2
  rcases Classical.em (x1 = 2) with c_3 | c_3
  · skip
    have hE := ite_t hE c_3
    refine lv_tableIn (off := 95) (tgt := 96) X.1 X.2.1 dX11_count_1 (by rw [c_3]; decide) (by rw [c_3]; decide) (by rw [c_3]; decide) (by decide) ?_
    refine lv_aload_n X.1 X.2.1 dX11_count_96 rfl (lv_at hl 0 rfl) ?_
    refine g11_4 X I (k := 0) (by decide) rfl lf_X11_42 dX11_count_97 ?_
    refine r_ei I (r_runV X I pk_X2_number (c2_number l G _ _) lm_X11_126 (by decide) (cl_2 rfl) rfl rfl rfl hl.1 rfl (Nat.le_of_ble_eq_true rfl) dX11_count_100 ⟨Nat.le_of_ble_eq_true rfl, Nat.le_of_ble_eq_true rfl⟩ ⟨Nat.le_refl 0, Nat.le_refl 0⟩) (fun H locs I => ?_)
    have h9 := hE
    exact r_iret X I (e_i h9.symm rfl rfl) dX11_count_103
  have hE := ite_f hE c_3
  rcases Classical.em (x1 = 3) with c_4 | c_4
  · skip
    have hE := ite_t hE c_4
    refine lv_tableIn (off := 103) (tgt := 104) X.1 X.2.1 dX11_count_1 (by rw [c_4]; decide) (by rw [c_4]; decide) (by rw [c_4]; decide) (by decide) ?_
    refine lv_aload_n X.1 X.2.1 dX11_count_104 rfl (lv_at hl 0 rfl) ?_
    refine g11_0 X I (k := 0) (by decide) rfl lf_X11_12 dX11_count_105 ?_
    refine r_ei I (r_runV X I pk_X7_size (c7_size l G _ _) lm_X11_104 (by decide) (cl_7 rfl) rfl rfl rfl hl.1 rfl (Nat.le_of_ble_eq_true rfl) dX11_count_108 ⟨Nat.le_of_ble_eq_true rfl, Nat.le_of_ble_eq_true rfl⟩ ⟨Nat.le_refl 0, Nat.le_refl 0⟩) (fun H locs I => ?_)
    have h9 := hE
    exact r_iret X I (e_i h9.symm rfl rfl) dX11_count_111
  have hE := ite_f hE c_4
  rcases Classical.em (x1 = 4) with c_5 | c_5
  · skip
    have hE := ite_t hE c_5
    refine lv_tableIn (off := 111) (tgt := 112) X.1 X.2.1 dX11_count_1 (by rw [c_5]; decide) (by rw [c_5]; decide) (by rw [c_5]; decide) (by decide) ?_
    refine lv_aload_n X.1 X.2.1 dX11_count_112 rfl (lv_at hl 0 rfl) ?_
    refine g11_4 X I (k := 0) (by decide) rfl lf_X11_42 dX11_count_113 ?_
    refine r_ei I (r_runV X I pk_X2_holding (c2_holding l G _ _) lm_X11_466 (by decide) (cl_2 rfl) rfl rfl rfl hl.1 rfl (Nat.le_of_ble_eq_true rfl) dX11_count_116 ⟨Nat.le_of_ble_eq_true rfl, Nat.le_of_ble_eq_true rfl⟩ ⟨Nat.le_refl 0, Nat.le_refl 0⟩) (fun H locs I => ?_)
    have h9 := hE
    exact r_iret X I (e_i h9.symm rfl rfl) dX11_count_119
  have hE := ite_f hE c_5
  rcases Classical.em (x1 = 11) with c_6 | c_6
  · skip
    have hE := ite_t hE c_6
    refine lv_tableIn (off := 119) (tgt := 120) X.1 X.2.1 dX11_count_1 (by rw [c_6]; decide) (by rw [c_6]; decide) (by rw [c_6]; decide) (by decide) ?_
    refine lv_aload_n X.1 X.2.1 dX11_count_120 rfl (lv_at hl 0 rfl) ?_
    refine g11_14 X I (k := 0) (by decide) rfl lf_X11_96 dX11_count_121 ?_
    have h9 := hE
    exact r_iret X I (e_i h9.symm rfl rfl) dX11_count_124
  have hE := ite_f hE c_6
  rcases Classical.em (x1 = 12) with c_7 | c_7
  · skip
    have hE := ite_t hE c_7
    refine lv_tableIn (off := 124) (tgt := 125) X.1 X.2.1 dX11_count_1 (by rw [c_7]; decide) (by rw [c_7]; decide) (by rw [c_7]; decide) (by decide) ?_
    refine lv_aload_n X.1 X.2.1 dX11_count_125 rfl (lv_at hl 0 rfl) ?_
    refine g11_8 X I (k := 0) (by decide) rfl lf_X11_72 dX11_count_126 ?_
    refine r_ei I (r_runV X I pk_X10_stoods (c10_stoods l G _ _) lm_X11_361 (by decide) (cl_10 rfl) rfl rfl rfl hl.1 rfl (Nat.le_of_ble_eq_true rfl) dX11_count_129 ⟨Nat.le_of_ble_eq_true rfl, Nat.le_of_ble_eq_true rfl⟩ ⟨Nat.le_refl 0, Nat.le_refl 0⟩) (fun H locs I => ?_)
    have h9 := hE
    exact r_iret X I (e_i h9.symm rfl rfl) dX11_count_132
  have hE := ite_f hE c_7
  rcases Classical.em (x1 = 13) with c_8 | c_8
  · skip
    have hE := ite_t hE c_8
    refine lv_tableIn (off := 132) (tgt := 133) X.1 X.2.1 dX11_count_1 (by rw [c_8]; decide) (by rw [c_8]; decide) (by rw [c_8]; decide) (by decide) ?_
    refine lv_aload_n X.1 X.2.1 dX11_count_133 rfl (lv_at hl 0 rfl) ?_
    refine g11_8 X I (k := 0) (by decide) rfl lf_X11_72 dX11_count_134 ?_
    refine r_ei I (r_runV X I pk_X10_seens (c10_seens l G _ _) lm_X11_420 (by decide) (cl_10 rfl) rfl rfl rfl hl.1 rfl (Nat.le_of_ble_eq_true rfl) dX11_count_137 ⟨Nat.le_of_ble_eq_true rfl, Nat.le_of_ble_eq_true rfl⟩ ⟨Nat.le_refl 0, Nat.le_refl 0⟩) (fun H locs I => ?_)
    have h9 := hE
    exact r_iret X I (e_i h9.symm rfl rfl) dX11_count_140
  have hE := ite_f hE c_8
  rcases Classical.em (x1 = 15) with c_9 | c_9
  · skip
    have hE := ite_t hE c_9
    refine lv_tableIn (off := 140) (tgt := 141) X.1 X.2.1 dX11_count_1 (by rw [c_9]; decide) (by rw [c_9]; decide) (by rw [c_9]; decide) (by decide) ?_
    refine lv_aload_n X.1 X.2.1 dX11_count_141 rfl (lv_at hl 0 rfl) ?_
    refine g11_6 X I (k := 0) (by decide) rfl lf_X11_56 dX11_count_142 ?_
    refine r_ei I (r_runV X I pk_X5_kept (c5_kept l G _ _) lm_X11_304 (by decide) (cl_5 rfl) rfl rfl rfl hl.1 rfl (Nat.le_of_ble_eq_true rfl) dX11_count_145 ⟨Nat.le_of_ble_eq_true rfl, Nat.le_of_ble_eq_true rfl⟩ ⟨Nat.le_refl 0, Nat.le_refl 0⟩) (fun H locs I => ?_)
    have h9 := hE
    exact r_iret X I (e_i h9.symm rfl rfl) dX11_count_148
  have hE := ite_f hE c_9
  refine lv_tableD (L := [0, 1, 2, 3, 4, 11, 12, 13, 15]) (tgt := 149) X.1 X.2.1 dX11_count_1 (by decide) (List.forall_mem_cons.mpr ⟨c_1, (List.forall_mem_cons.mpr ⟨c_2, (List.forall_mem_cons.mpr ⟨c_3, (List.forall_mem_cons.mpr ⟨c_4, (List.forall_mem_cons.mpr ⟨c_5, (List.forall_mem_cons.mpr ⟨c_6, (List.forall_mem_cons.mpr ⟨c_7, (List.forall_mem_cons.mpr ⟨c_8, (List.forall_mem_cons.mpr ⟨c_9, (fun _ h => absurd h List.not_mem_nil)⟩)⟩)⟩)⟩)⟩)⟩)⟩)⟩)⟩) (by decide) ?_
  refine lv_aload_n X.1 X.2.1 dX11_count_149 rfl (lv_at hl 0 rfl) ?_
  refine lv_iload_n X.1 X.2.1 dX11_count_150 rfl (lv_at hl 1 rfl) ?_
  refine r_ei I (r_runV X I pk_X11_countNow (c11_countNow l G _ _ _) lm_X11_469 (by decide) (cl_11 rfl) rfl rfl rfl hl.1 rfl (Nat.le_of_ble_eq_true rfl) dX11_count_151 ⟨Nat.le_of_ble_eq_true rfl, Nat.le_of_ble_eq_true rfl⟩ ⟨Nat.le_refl 0, Nat.le_refl 0⟩) (fun H locs I => ?_)
  have h9 := hE
  exact r_iret X I (e_i h9.symm rfl rfl) dX11_count_154
