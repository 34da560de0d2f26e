noncomputable def f11_year (σ : SI) : Int32 × SI := if (f8_isTold 10 σ) = true then (if (σ 24 6) < (999 : Int32) then (let s0 := (f5_keep 24 σ); let s1 := (f11_goBy s0); ((s1 24 6), s1)) else (let r2 := (f11_refused σ (4 : Int32)); r2)) else (let r3 := (f11_refused σ (0 : Int32)); r3)
theorem w_f11_year (σ : SI) (a : Nat) (h0 : a ≠ 24) (h1 : a ≠ 25) (h2 : a ≠ 26) (h3 : a ≠ 39) (h4 : a < 43 ∨ 123 ≤ a) : (f11_year σ).2 a = σ a := by
  refine fp_to2 ?_
  unfold f11_year
  exact (fr_ite2 (fr_ite2 (fr_mk21 ((w_f11_goBy _ a h0 h1).trans (w_f5_keep _ a h2 h4))) (w_f11_refused _ _ a h3)) (w_f11_refused _ _ a h3))
set_option maxHeartbeats 4000000 in
set_option maxRecDepth 100000 in
theorem c11_year (l : Launch) (G : GT) (σ : SI) (τ : SL) : Mc l yX11_year cX11_year 1 (some .int) 4 G [.ref (G.2.1 0)] σ τ (Qi G (Ei (f11_year σ).1 (f11_year σ).2 τ)) := by
  refine m_start (by decide +kernel) (Nat.le_of_ble_eq_true rfl) rfl (fun p e s m args below meth c ls X I hl => ?_)
  have hl : lv_has ls 1 [(0, .ref (G.2.1 0))] := hl
  obtain ⟨E, hE⟩ : ∃ E, E = (f11_year σ) := ⟨_, rfl⟩
  rw [← hE]
  refine lv_aload_n X.1 X.2.1 dX11_year_0 rfl (lv_at hl 0 rfl) ?_
  refine g11_3 X I (k := 0) (by decide) rfl lf_X11_35 dX11_year_1 ?_
  refine r_ei I (r_runV X I pk_X8_isTold (c8_isTold l G (k := 10) ⟨by decide, rfl, rfl, rfl⟩ _ _) lm_X11_154 (by decide) (cl_8 rfl) rfl rfl rfl hl.1 rfl (Nat.le_of_ble_eq_true rfl) dX11_year_4 ⟨Nat.le_of_ble_eq_true rfl, Nat.le_of_ble_eq_true rfl⟩ ⟨Nat.le_refl 0, Nat.le_refl 0⟩) (fun H locs I => ?_)
  refine lv_if_ne (tgt := 16) X.1 X.2.1 dX11_year_7 (by decide) (fun c_1 => ?_) (fun c_1 => ?_)
  · skip
    have hE := ite_t hE (b2i_y c_1)
    refine lv_aload_n X.1 X.2.1 dX11_year_16 rfl (lv_at hl 0 rfl) ?_
    refine g11_5 X I (k := 0) (by decide) rfl lf_X11_49 dX11_year_17 ?_
    refine g0_6 X I (k := 24) (by decide) rfl lf_X11_219 dX11_year_20 ?_
    refine lv_sipush (v := 999) X.1 X.2.1 dX11_year_23 (by decide) ?_
    refine lv_icmp_lt (tgt := 35) X.1 X.2.1 dX11_year_26 (by decide) (fun c_2 => ?_) (fun c_2 => ?_)
    · skip
      have hE := ite_t hE c_2
      refine lv_aload_n X.1 X.2.1 dX11_year_35 rfl (lv_at hl 0 rfl) ?_
      refine g11_6 X I (k := 0) (by decide) rfl lf_X11_56 dX11_year_36 ?_
      refine lv_aload_n X.1 X.2.1 dX11_year_39 rfl (lv_at hl 0 rfl) ?_
      refine g11_5 X I (k := 0) (by decide) rfl lf_X11_49 dX11_year_40 ?_
      refine r_ev I (r_runV X I pk_X5_keep (c5_keep l G (k1 := 24) ⟨by decide, rfl, rfl⟩ _ _) lm_X11_235 (by decide) (cl_5 rfl) rfl rfl rfl hl.1 rfl (Nat.le_of_ble_eq_true rfl) dX11_year_43 ⟨Nat.le_of_ble_eq_true rfl, Nat.le_of_ble_eq_true rfl⟩ ⟨Nat.le_refl 0, Nat.le_refl 0⟩) (fun H locs I => ?_)
      refine lv_aload_n X.1 X.2.1 dX11_year_46 rfl (lv_at hl 0 rfl) ?_
      refine r_ev I (r_runV X I pk_X11_goBy (c11_goBy l G _ _) lm_X11_274 (by decide) (cl_11 rfl) rfl rfl rfl hl.1 rfl (Nat.le_of_ble_eq_true rfl) dX11_year_47 ⟨Nat.le_of_ble_eq_true rfl, Nat.le_of_ble_eq_true rfl⟩ ⟨Nat.le_refl 0, Nat.le_refl 0⟩) (fun H locs I => ?_)
      refine lv_aload_n X.1 X.2.1 dX11_year_50 rfl (lv_at hl 0 rfl) ?_
      refine g11_5 X I (k := 0) (by decide) rfl lf_X11_49 dX11_year_51 ?_
      refine g0_6 X I (k := 24) (by decide) rfl lf_X11_219 dX11_year_54 ?_
      have h9 := hE
      exact r_iret X I (e_i (pr_fst h9) (pr_snd h9) rfl) dX11_year_57
    · skip
      have hE := ite_f hE c_2
      refine lv_aload_n X.1 X.2.1 dX11_year_29 rfl (lv_at hl 0 rfl) ?_
      refine lv_iconst (v := 4) X.1 X.2.1 dX11_year_30 (by decide) ?_
      refine r_ei I (r_runV X I pk_X11_refused (c11_refused l G _ _ _) lm_X11_226 (by decide) (cl_11 rfl) rfl rfl rfl hl.1 rfl (Nat.le_of_ble_eq_true rfl) dX11_year_31 ⟨Nat.le_of_ble_eq_true rfl, Nat.le_of_ble_eq_true rfl⟩ ⟨Nat.le_refl 0, Nat.le_refl 0⟩) (fun H locs I => ?_)
      have h9 := hE
      exact r_iret X I (e_i (congrArg Prod.fst h9).symm (congrArg Prod.snd h9).symm rfl) dX11_year_34
  · skip
    have hE := ite_f hE (b2i_n c_1)
    refine lv_aload_n X.1 X.2.1 dX11_year_10 rfl (lv_at hl 0 rfl) ?_
    refine lv_iconst (v := 0) X.1 X.2.1 dX11_year_11 (by decide) ?_
    refine r_ei I (r_runV X I pk_X11_refused (c11_refused l G _ _ _) lm_X11_226 (by decide) (cl_11 rfl) rfl rfl rfl hl.1 rfl (Nat.le_of_ble_eq_true rfl) dX11_year_12 ⟨Nat.le_of_ble_eq_true rfl, Nat.le_of_ble_eq_true rfl⟩ ⟨Nat.le_refl 0, Nat.le_refl 0⟩) (fun H locs I => ?_)
    have h9 := hE
    exact r_iret X I (e_i (congrArg Prod.fst h9).symm (congrArg Prod.snd h9).symm rfl) dX11_year_15
noncomputable def f11_faith (σ : SI) (x1 : Int32) : Bool × SI := if x1 < (0 : Int32) then (false, σ) else (if (9 : Int32) < x1 then (false, σ) else (if x1 = (σ 0 14) then (false, σ) else (let s0 := sp σ 0 14 x1; (true, s0))))
theorem w_f11_faith (σ : SI) (x1 : Int32) (a : Nat) (h0 : a ≠ 0) : (f11_faith σ x1).2 a = σ a := by
  refine fp_to2 ?_
  unfold f11_faith
  exact (fr_ite2 (fr_mk21 rfl) (fr_ite2 (fr_mk21 rfl) (fr_ite2 (fr_mk21 rfl) (fr_mk21 (sp_n h0)))))
set_option maxHeartbeats 4000000 in
set_option maxRecDepth 100000 in
theorem c11_faith (l : Launch) (G : GT) (σ : SI) (τ : SL) (x1 : Int32) : Mc l yX11_faith cX11_faith 2 (some .boolean) 0 G [.ref (G.2.1 0), .int x1] σ τ (Qi G (Ei (b2i (f11_faith σ x1).1) (f11_faith σ x1).2 τ)) := by
  refine m_start (by decide +kernel) (Nat.le_of_ble_eq_true rfl) rfl (fun p e s m args below meth c ls X I hl => ?_)
  have hl : lv_has ls 2 [(0, .ref (G.2.1 0)), (1, .int x1)] := hl
  obtain ⟨E, hE⟩ : ∃ E, E = (f11_faith σ x1) := ⟨_, rfl⟩
  rw [← hE]
  refine lv_iload_n X.1 X.2.1 dX11_faith_0 rfl (lv_at hl 1 rfl) ?_
  refine lv_if_lt (tgt := 18) X.1 X.2.1 dX11_faith_1 (by decide) (fun c_1 => ?_) (fun c_1 => ?_)
  · skip
    have hE := ite_t hE c_1
    refine lv_iconst (v := 0) X.1 X.2.1 dX11_faith_18 (by decide) ?_
    have h9 := hE
    exact r_zret X I rfl (e_i (congrArg b2i (pr_fst (a := false) h9)) (pr_snd h9) rfl) dX11_faith_19
  · skip
    have hE := ite_f hE c_1
    refine lv_iload_n X.1 X.2.1 dX11_faith_4 rfl (lv_at hl 1 rfl) ?_
    refine lv_bipush (v := 9) X.1 X.2.1 dX11_faith_5 (by decide) ?_
    refine lv_icmp_gt (tgt := 18) X.1 X.2.1 dX11_faith_7 (by decide) (fun c_2 => ?_) (fun c_2 => ?_)
    · skip
      have hE := ite_t hE c_2
      refine lv_iconst (v := 0) X.1 X.2.1 dX11_faith_18 (by decide) ?_
      have h9 := hE
      exact r_zret X I rfl (e_i (congrArg b2i (pr_fst (a := false) h9)) (pr_snd h9) rfl) dX11_faith_19
    · skip
      have hE := ite_f hE c_2
      refine lv_iload_n X.1 X.2.1 dX11_faith_10 rfl (lv_at hl 1 rfl) ?_
      refine lv_aload_n X.1 X.2.1 dX11_faith_11 rfl (lv_at hl 0 rfl) ?_
      refine g11_14 X I (k := 0) (by decide) rfl lf_X11_96 dX11_faith_12 ?_
      refine lv_icmp_ne (tgt := 20) X.1 X.2.1 dX11_faith_15 (by decide) (fun c_3 => ?_) (fun c_3 => ?_)
      · skip
        have hE := ite_f hE c_3
        refine lv_aload_n X.1 X.2.1 dX11_faith_20 rfl (lv_at hl 0 rfl) ?_
        refine lv_iload_n X.1 X.2.1 dX11_faith_21 rfl (lv_at hl 1 rfl) ?_
        refine p11_14 X I (k := 0) (by decide) rfl lf_X11_96 dX11_faith_22 (fun H locs I => ?_)
        refine lv_iconst (v := 1) X.1 X.2.1 dX11_faith_25 (by decide) ?_
        have h9 := hE
        exact r_zret X I rfl (e_i (congrArg b2i (pr_fst (a := true) h9)) (pr_snd h9) rfl) dX11_faith_26
      · skip
        have hE := ite_t hE c_3
        refine lv_iconst (v := 0) X.1 X.2.1 dX11_faith_18 (by decide) ?_
        have h9 := hE
        exact r_zret X I rfl (e_i (congrArg b2i (pr_fst (a := false) h9)) (pr_snd h9) rfl) dX11_faith_19
noncomputable def f11_draw (τ : SL) (x1 : Int32) : Int32 × SL := let t0 := sl τ 0 (((τ 0) * (6364136223846793005 : Int64)) + (1442695040888963407 : Int64)); if (0 : Int32) < x1 then ((Int64.toInt32 (((Int64.toUInt64 (t0 0) >>> ((Int32.toInt64 (33 : Int32)).toUInt64 &&& Int64.toUInt64 63)).toInt64) - ((Int64.toUInt64 (t0 0) >>> ((Int32.toInt64 (33 : Int32)).toUInt64 &&& Int64.toUInt64 63)).toInt64) / (Int32.toInt64 x1) * (Int32.toInt64 x1))), t0) else ((0 : Int32), t0)
set_option maxHeartbeats 4000000 in
set_option maxRecDepth 100000 in
theorem c11_draw (l : Launch) (G : GT) (σ : SI) (τ : SL) (x1 : Int32) : Mc l yX11_draw cX11_draw 2 (some .int) 0 G [.ref (G.2.1 0), .int x1] σ τ (Qi G (Ei (f11_draw τ x1).1 σ (f11_draw τ x1).2)) := by
  refine m_start (by decide +kernel) (Nat.le_of_ble_eq_true rfl) rfl (fun p e s m args below meth c ls X I hl => ?_)
  have hl : lv_has ls 2 [(0, .ref (G.2.1 0)), (1, .int x1)] := hl
  obtain ⟨E, hE⟩ : ∃ E, E = (f11_draw τ x1) := ⟨_, rfl⟩
  rw [← hE]
  refine lv_aload_n X.1 X.2.1 dX11_draw_0 rfl (lv_at hl 0 rfl) ?_
  refine lv_aload_n X.1 X.2.1 dX11_draw_1 rfl (lv_at hl 0 rfl) ?_
  refine g11_15 X I (k := 0) (by decide) rfl lf_X11_286 dX11_draw_2 ?_
  refine lv_ldc2 X.1 X.2.1 (v := 6364136223846793005) X.2.2.2.2.1 (X.2.2.2.1 _ lq_X11_296) dX11_draw_5 ?_
  refine lv_lmul X.1 X.2.1 dX11_draw_8 ?_
  refine lv_ldc2 X.1 X.2.1 (v := 1442695040888963407) X.2.2.2.2.1 (X.2.2.2.1 _ lq_X11_298) dX11_draw_9 ?_
  refine lv_ladd X.1 X.2.1 dX11_draw_12 ?_
  refine p11_15 X I (k := 0) (by decide) rfl lf_X11_286 dX11_draw_13 (fun H locs I => ?_)
  refine lv_iload_n X.1 X.2.1 dX11_draw_16 rfl (lv_at hl 1 rfl) ?_
  refine lv_if_gt (tgt := 24) X.1 X.2.1 dX11_draw_17 (by decide) (fun c_1 => ?_) (fun c_1 => ?_)
  · skip
    have hE := ite_t hE c_1
    refine lv_aload_n X.1 X.2.1 dX11_draw_24 rfl (lv_at hl 0 rfl) ?_
    refine g11_15 X I (k := 0) (by decide) rfl lf_X11_286 dX11_draw_25 ?_
    refine lv_bipush (v := 33) X.1 X.2.1 dX11_draw_28 (by decide) ?_
    refine lv_lushr X.1 X.2.1 dX11_draw_30 rfl ?_
    refine lv_iload_n X.1 X.2.1 dX11_draw_31 rfl (lv_at hl 1 rfl) ?_
    refine lv_i2l X.1 X.2.1 dX11_draw_32 rfl ?_
    refine lv_lrem X.1 X.2.1 dX11_draw_33 (i2l_ne c_1) ?_
    refine lv_l2i X.1 X.2.1 dX11_draw_34 rfl ?_
    have h9 := hE
    exact r_iret X I (e_i (pr_fst h9) rfl (pr_snd h9)) dX11_draw_35
  · skip
    have hE := ite_f hE c_1
    refine lv_iconst (v := 0) X.1 X.2.1 dX11_draw_20 (by decide) ?_
    refine lv_goto (tgt := 35) X.1 X.2.1 dX11_draw_21 (by decide) ?_
    have h9 := hE
    exact r_iret X I (e_i (pr_fst h9) rfl (pr_snd h9)) dX11_draw_35
noncomputable def f11_triedDoor (σ : SI) (x1 : Int32) : Int32 × SI := let s0 := (f4_setOut σ); let r1 := (f4_comesTo s0 x1); if r1.1 = true then (let r2 := (f11_arrived r1.2 x1); ((1 : Int32), r2.2)) else ((0 : Int32), r1.2)
theorem w_f11_triedDoor (σ : SI) (x1 : Int32) (a : Nat) (h0 : a ≠ 13) (h1 : a ≠ 15) (h2 : a ≠ 24) (h3 : a ≠ 25) (h4 : a ≠ 28) (h5 : a ≠ 32) : (f11_triedDoor σ x1).2 a = σ a := by
  refine fp_to2 ?_
  unfold f11_triedDoor
  exact (fr_ite2 (fr_mk21 ((w_f11_arrived _ _ a h2 h3 h4).trans ((w_f4_comesTo _ _ a h0 h1 h5).trans (w_f4_setOut _ a h5)))) (fr_mk21 ((w_f4_comesTo _ _ a h0 h1 h5).trans (w_f4_setOut _ a h5))))
set_option maxHeartbeats 4000000 in
set_option maxRecDepth 100000 in
theorem c11_triedDoor (l : Launch) (G : GT) (σ : SI) (τ : SL) (x1 : Int32) : Mc l yX11_triedDoor cX11_triedDoor 2 (some .int) 5 G [.ref (G.2.1 0), .int x1] σ τ (Qi G (Ei (f11_triedDoor σ x1).1 (f11_triedDoor σ x1).2 τ)) := by
  refine m_start (by decide +kernel) (Nat.le_of_ble_eq_true rfl) rfl (fun p e s m args below meth c ls X I hl => ?_)
  have hl : lv_has ls 2 [(0, .ref (G.2.1 0)), (1, .int x1)] := hl
  obtain ⟨E, hE⟩ : ∃ E, E = (f11_triedDoor σ x1) := ⟨_, rfl⟩
  rw [← hE]
  refine lv_aload_n X.1 X.2.1 dX11_triedDoor_0 rfl (lv_at hl 0 rfl) ?_
  refine g11_7 X I (k := 0) (by decide) rfl lf_X11_65 dX11_triedDoor_1 ?_
  refine r_ev I (r_runV X I pk_X4_setOut (c4_setOut l G _ _) lm_X11_229 (by decide) (cl_4 rfl) rfl rfl rfl hl.1 rfl (Nat.le_of_ble_eq_true rfl) dX11_triedDoor_4 ⟨Nat.le_of_ble_eq_true rfl, Nat.le_of_ble_eq_true rfl⟩ ⟨Nat.le_refl 0, Nat.le_refl 0⟩) (fun H locs I => ?_)
  refine lv_aload_n X.1 X.2.1 dX11_triedDoor_7 rfl (lv_at hl 0 rfl) ?_
  refine g11_7 X I (k := 0) (by decide) rfl lf_X11_65 dX11_triedDoor_8 ?_
  refine lv_iload_n X.1 X.2.1 dX11_triedDoor_11 rfl (lv_at hl 1 rfl) ?_
  refine r_ei I (r_runV X I pk_X4_comesTo (c4_comesTo l G _ _ _) lm_X11_232 (by decide) (cl_4 rfl) rfl rfl rfl hl.1 rfl (Nat.le_of_ble_eq_true rfl) dX11_triedDoor_12 ⟨Nat.le_of_ble_eq_true rfl, Nat.le_of_ble_eq_true rfl⟩ ⟨Nat.le_refl 0, Nat.le_refl 0⟩) (fun H locs I => ?_)
  refine lv_if_ne (tgt := 20) X.1 X.2.1 dX11_triedDoor_15 (by decide) (fun c_1 => ?_) (fun c_1 => ?_)
  · skip
    have hE := ite_t hE (b2i_y c_1)
    refine lv_aload_n X.1 X.2.1 dX11_triedDoor_20 rfl (lv_at hl 0 rfl) ?_
    refine lv_iload_n X.1 X.2.1 dX11_triedDoor_21 rfl (lv_at hl 1 rfl) ?_
    refine r_ei I (r_runV X I pk_X11_arrived (c11_arrived l G _ _ _) lm_X11_239 (by decide) (cl_11 rfl) rfl rfl rfl hl.1 rfl (Nat.le_of_ble_eq_true rfl) dX11_triedDoor_22 ⟨Nat.le_of_ble_eq_true rfl, Nat.le_of_ble_eq_true rfl⟩ ⟨Nat.le_refl 0, Nat.le_refl 0⟩) (fun H locs I => ?_)
    refine lv_pop X.1 X.2.1 dX11_triedDoor_25 rfl ?_
    refine lv_iconst (v := 1) X.1 X.2.1 dX11_triedDoor_26 (by decide) ?_
    have h9 := hE
    exact r_iret X I (e_i (pr_fst h9) (pr_snd h9) rfl) dX11_triedDoor_27
  · skip
    have hE := ite_f hE (b2i_n c_1)
    refine lv_iconst (v := 0) X.1 X.2.1 dX11_triedDoor_18 (by decide) ?_
    have h9 := hE
    exact r_iret X I (e_i (pr_fst h9) (pr_snd h9) rfl) dX11_triedDoor_19
noncomputable def f11_decades_c34 (x1 : Int32) (x2 : Int64) : Nat → Int32 → Int32 → SI → SL → (Int32 × SI × SL)
  | 0, _, _, σ, τ => (0, σ, τ)
  | fu + 1, v4, v5, σ, τ => if x1 ≤ v5 then (v4, σ, τ) else (let s1 := (f5_keep 24 σ); let r2 := (f11_draw τ (10 : Int32)); if (s1 0 14) ≤ r2.1 then (if (999 : Int32) ≤ (s1 24 6) then (f11_decades_c34 x1 x2 fu v4 (v5 + 1) s1 r2.2) else (let s3 := (f11_goBy s1); (f11_decades_c34 x1 x2 fu v4 (v5 + 1) s3 r2.2))) else (let r4 := (f11_draw r2.2 (f8_houses 10 s1)); let r5 := (f11_triedDoor s1 r4.1); (f11_decades_c34 x1 x2 fu (v4 + r5.1) (v5 + 1) r5.2 r4.2)))
noncomputable def f11_decades (σ : SI) (τ : SL) (x1 : Int32) (x2 : Int64) : Int32 × SI × SL := if (f8_isTold 10 σ) = true then (if x1 < (1 : Int32) then ((-1 : Int32), σ, τ) else (if x1 ≤ (60 : Int32) then (let t0 := sl τ 0 x2; (f11_decades_c34 x1 x2 (fu1 ((Int32.toInt x1 - Int32.toInt (0 : Int32)).toNat)) (0 : Int32) (0 : Int32) σ t0)) else ((-1 : Int32), σ, τ))) else ((-1 : Int32), σ, τ)
theorem w_f11_decades_c34 (x1 : Int32) (x2 : Int64) (a : Nat) (h0 : a ≠ 13) (h1 : a ≠ 15) (h2 : a ≠ 24) (h3 : a ≠ 25) (h4 : a ≠ 26) (h5 : a ≠ 28) (h6 : a ≠ 32) (h7 : a < 43 ∨ 123 ≤ a) : ∀ (fu : Nat) (v4 : Int32) (v5 : Int32) (σ : SI) (τ : SL), (f11_decades_c34 x1 x2 fu v4 v5 σ τ).2.1 a = σ a := by
  intro fu
  induction fu with
  | zero => intro v4 v5 σ τ; exact rfl
  | succ fu ih =>
    intro v4 v5 σ τ
    refine fp_to21 ?_
    unfold f11_decades_c34
    exact (fr_ite21 (fr_mk31 rfl) (fr_ite21 (fr_ite21 (fp_of21 (((ih _ _ _ _).trans (w_f5_keep _ a h4 h7)))) (fp_of21 (((ih _ _ _ _).trans ((w_f11_goBy _ a h2 h3).trans (w_f5_keep _ a h4 h7)))))) (fp_of21 (((ih _ _ _ _).trans ((w_f11_triedDoor _ _ a h0 h1 h2 h3 h5 h6).trans (w_f5_keep _ a h4 h7)))))))
theorem w_f11_decades (σ : SI) (τ : SL) (x1 : Int32) (x2 : Int64) (a : Nat) (h0 : a ≠ 13) (h1 : a ≠ 15) (h2 : a ≠ 24) (h3 : a ≠ 25) (h4 : a ≠ 26) (h5 : a ≠ 28) (h6 : a ≠ 32) (h7 : a < 43 ∨ 123 ≤ a) : (f11_decades σ τ x1 x2).2.1 a = σ a := by
  refine fp_to21 ?_
  unfold f11_decades
  exact (fr_ite21 (fr_ite21 (fr_mk31 rfl) (fr_ite21 (fp_of21 ((w_f11_decades_c34 _ _ a h0 h1 h2 h3 h4 h5 h6 h7 _ _ _ _ _))) (fr_mk31 rfl))) (fr_mk31 rfl))
set_option maxHeartbeats 4000000 in
set_option maxRecDepth 100000 in
theorem c11_decades_c34 {l : Launch} {p : Program} {e : Env} {s : State} {m : MethodId} {args : Array Value} {below : List Frame} {meth : Method} {c : Code} {G : GT} (X : CX p s m args meth c cX11_decades RX11 6 (some .int) G) {E : Int32 × SI × SL} (x1 : Int32) (x2 : Int64) : ∀ (fu : Nat) (v4 : Int32) (v5 : Int32) (σ : SI) (τ : SL) (H : Heap) (locs : List Loc) (ls : Array Slot), IX G s H locs σ τ → lv_has ls 6 [(0, .ref (G.2.1 0)), (1, .int x1), (2, .long x2), (4, .int v4), (5, .int v5)] → (Int32.toInt x1 - Int32.toInt v5).toNat < fu → E = (f11_decades_c34 x1 x2 fu v4 v5 σ τ) → W p l e (rmN 6) s m args below meth c H locs 0 0 (MQ below ((Qi G (Ei E.1 E.2.1 E.2.2)) s.heap.size) args s 0 0 (AW G s.heap.size)) (F0 m 34 ls []) := by
  intro fu
  induction fu with
  | zero =>
    intro v4 v5 σ τ H locs ls I hl  hm hE
    exact absurd hm (Nat.not_lt_zero _)
  | succ fu ih =>
    intro v4 v5 σ τ H locs ls I hl  hm hE
    refine lv_iload X.1 X.2.1 dX11_decades_34 (lv_at hl 4 rfl) ?_
    refine lv_iload_n X.1 X.2.1 dX11_decades_36 rfl (lv_at hl 1 rfl) ?_
    refine lv_icmp_ge (tgt := 110) X.1 X.2.1 dX11_decades_37 (by decide) (fun c_4 => ?_) (fun c_4 => ?_)
    · skip
      have hE := ite_t hE c_4
      refine lv_iload X.1 X.2.1 dX11_decades_110 (lv_at hl 3 rfl) ?_
      have h9 := hE
      exact r_iret X I (e_i (pr_1 h9) (pr_2 h9) (pr_3 h9)) dX11_decades_112
    · skip
      have hE := ite_f hE c_4
      refine lv_aload_n X.1 X.2.1 dX11_decades_40 rfl (lv_at hl 0 rfl) ?_
      refine g11_6 X I (k := 0) (by decide) rfl lf_X11_56 dX11_decades_41 ?_
      refine lv_aload_n X.1 X.2.1 dX11_decades_44 rfl (lv_at hl 0 rfl) ?_
      refine g11_5 X I (k := 0) (by decide) rfl lf_X11_49 dX11_decades_45 ?_
      refine r_ev I (r_runV X I pk_X5_keep (c5_keep l G (k1 := 24) ⟨by decide, rfl, rfl⟩ _ _) lm_X11_235 (by decide) (cl_5 rfl) rfl rfl rfl hl.1 rfl (Nat.le_of_ble_eq_true rfl) dX11_decades_48 ⟨Nat.le_of_ble_eq_true rfl, Nat.le_of_ble_eq_true rfl⟩ ⟨Nat.le_refl 0, Nat.le_refl 0⟩) (fun H locs I => ?_)
      refine lv_aload_n X.1 X.2.1 dX11_decades_51 rfl (lv_at hl 0 rfl) ?_
      refine lv_bipush (v := 10) X.1 X.2.1 dX11_decades_52 (by decide) ?_
      refine r_ei I (r_runV X I pk_X11_draw (c11_draw l G _ _ _) lm_X11_290 (by decide) (cl_11 rfl) rfl rfl rfl hl.1 rfl (Nat.le_of_ble_eq_true rfl) dX11_decades_54 ⟨Nat.le_of_ble_eq_true rfl, Nat.le_of_ble_eq_true rfl⟩ ⟨Nat.le_refl 0, Nat.le_refl 0⟩) (fun H locs I => ?_)
      refine lv_aload_n X.1 X.2.1 dX11_decades_57 rfl (lv_at hl 0 rfl) ?_
      refine g11_14 X I (k := 0) (by decide) rfl lf_X11_96 dX11_decades_58 ?_
      refine lv_icmp_ge (tgt := 87) X.1 X.2.1 dX11_decades_61 (by decide) (fun c_5 => ?_) (fun c_5 => ?_)
      · skip
        have hE := ite_t hE c_5
        refine lv_aload_n X.1 X.2.1 dX11_decades_87 rfl (lv_at hl 0 rfl) ?_
        refine g11_5 X I (k := 0) (by decide) rfl lf_X11_49 dX11_decades_88 ?_
        refine g0_6 X I (k := 24) (by decide) rfl lf_X11_219 dX11_decades_91 ?_
        refine lv_sipush (v := 999) X.1 X.2.1 dX11_decades_94 (by decide) ?_
        refine lv_icmp_ge (tgt := 104) X.1 X.2.1 dX11_decades_97 (by decide) (fun c_6 => ?_) (fun c_6 => ?_)
        · skip
          have hE := ite_t hE c_6
          refine lv_iinc (v := _ + 1) (lv' := [(5, .int _), (0, .ref _), (1, .int _), (2, .long _), (4, .int _)]) X.1 X.2.1 dX11_decades_104 hl (k := 4) rfl rfl (by decide) rfl (fun ls hl => ?_)
          refine lv_goto (tgt := 34) X.1 X.2.1 dX11_decades_107 (by decide) ?_
          exact ih _ _ _ _ _ _ _ I (lv_sub hl [1, 2, 3, 4, 0] rfl) (Nat.lt_of_lt_of_le (up_dec c_4) (Nat.le_of_lt_succ hm)) (hE.trans (rfl))
        · skip
          have hE := ite_f hE c_6
          refine lv_aload_n X.1 X.2.1 dX11_decades_100 rfl (lv_at hl 0 rfl) ?_
          refine r_ev I (r_runV X I pk_X11_goBy (c11_goBy l G _ _) lm_X11_274 (by decide) (cl_11 rfl) rfl rfl rfl hl.1 rfl (Nat.le_of_ble_eq_true rfl) dX11_decades_101 ⟨Nat.le_of_ble_eq_true rfl, Nat.le_of_ble_eq_true rfl⟩ ⟨Nat.le_refl 0, Nat.le_refl 0⟩) (fun H locs I => ?_)
          refine lv_iinc (v := _ + 1) (lv' := [(5, .int _), (0, .ref _), (1, .int _), (2, .long _), (4, .int _)]) X.1 X.2.1 dX11_decades_104 hl (k := 4) rfl rfl (by decide) rfl (fun ls hl => ?_)
          refine lv_goto (tgt := 34) X.1 X.2.1 dX11_decades_107 (by decide) ?_
          exact ih _ _ _ _ _ _ _ I (lv_sub hl [1, 2, 3, 4, 0] rfl) (Nat.lt_of_lt_of_le (up_dec c_4) (Nat.le_of_lt_succ hm)) (hE.trans (rfl))
      · skip
        have hE := ite_f hE c_5
        refine lv_iload X.1 X.2.1 dX11_decades_64 (lv_at hl 3 rfl) ?_
        refine lv_aload_n X.1 X.2.1 dX11_decades_66 rfl (lv_at hl 0 rfl) ?_
        refine lv_aload_n X.1 X.2.1 dX11_decades_67 rfl (lv_at hl 0 rfl) ?_
        refine lv_aload_n X.1 X.2.1 dX11_decades_68 rfl (lv_at hl 0 rfl) ?_
        refine g11_3 X I (k := 0) (by decide) rfl lf_X11_35 dX11_decades_69 ?_
        refine r_ei I (r_runV X I pk_X8_houses (c8_houses l G (k := 10) ⟨by decide, rfl, rfl, rfl⟩ _ _) lm_X11_151 (by decide) (cl_8 rfl) rfl rfl rfl hl.1 rfl (Nat.le_of_ble_eq_true rfl) dX11_decades_72 ⟨Nat.le_of_ble_eq_true rfl, Nat.le_of_ble_eq_true rfl⟩ ⟨Nat.le_refl 0, Nat.le_refl 0⟩) (fun H locs I => ?_)
        refine r_ei I (r_runV X I pk_X11_draw (c11_draw l G _ _ _) lm_X11_290 (by decide) (cl_11 rfl) rfl rfl rfl hl.1 rfl (Nat.le_of_ble_eq_true rfl) dX11_decades_75 ⟨Nat.le_of_ble_eq_true rfl, Nat.le_of_ble_eq_true rfl⟩ ⟨Nat.le_refl 0, Nat.le_refl 0⟩) (fun H locs I => ?_)
        refine r_ei I (r_runV X I pk_X11_triedDoor (c11_triedDoor l G _ _ _) lm_X11_293 (by decide) (cl_11 rfl) rfl rfl rfl hl.1 rfl (Nat.le_of_ble_eq_true rfl) dX11_decades_78 ⟨Nat.le_of_ble_eq_true rfl, Nat.le_of_ble_eq_true rfl⟩ ⟨Nat.le_refl 0, Nat.le_refl 0⟩) (fun H locs I => ?_)
        refine lv_iadd X.1 X.2.1 dX11_decades_81 ?_
        refine lv_istore (lv' := [(4, .int _), (0, .ref _), (1, .int _), (2, .long _), (5, .int _)]) X.1 X.2.1 dX11_decades_82 hl (by decide) rfl (fun ls hl => ?_)
        refine lv_goto (tgt := 104) X.1 X.2.1 dX11_decades_84 (by decide) ?_
        refine lv_iinc (v := _ + 1) (lv' := [(5, .int _), (4, .int _), (0, .ref _), (1, .int _), (2, .long _)]) X.1 X.2.1 dX11_decades_104 hl (k := 4) rfl rfl (by decide) rfl (fun ls hl => ?_)
        refine lv_goto (tgt := 34) X.1 X.2.1 dX11_decades_107 (by decide) ?_
        exact ih _ _ _ _ _ _ _ I (lv_sub hl [2, 3, 4, 1, 0] rfl) (Nat.lt_of_lt_of_le (up_dec c_4) (Nat.le_of_lt_succ hm)) (hE.trans (rfl))
set_option maxHeartbeats 4000000 in
set_option maxRecDepth 100000 in
theorem c11_decades (l : Launch) (G : GT) (σ : SI) (τ : SL) (x1 : Int32) (x2 : Int64) : Mc l yX11_decades cX11_decades 6 (some .int) 6 G [.ref (G.2.1 0), .int x1, .long x2] σ τ (Qi G (Ei (f11_decades σ τ x1 x2).1 (f11_decades σ τ x1 x2).2.1 (f11_decades σ τ x1 x2).2.2)) := by
  refine m_start (by decide +kernel) (Nat.le_of_ble_eq_true rfl) rfl (fun p e s m args below meth c ls X I hl => ?_)
  have hl : lv_has ls 6 [(0, .ref (G.2.1 0)), (1, .int x1), (2, .long x2)] := hl
  obtain ⟨E, hE⟩ : ∃ E, E = (f11_decades σ τ x1 x2) := ⟨_, rfl⟩
  rw [← hE]
  refine lv_aload_n X.1 X.2.1 dX11_decades_0 rfl (lv_at hl 0 rfl) ?_
  refine g11_3 X I (k := 0) (by decide) rfl lf_X11_35 dX11_decades_1 ?_
  refine r_ei I (r_runV X I pk_X8_isTold (c8_isTold l G (k := 10) ⟨by decide, rfl, rfl, rfl⟩ _ _) lm_X11_154 (by decide) (cl_8 rfl) rfl rfl rfl hl.1 rfl (Nat.le_of_ble_eq_true rfl) dX11_decades_4 ⟨Nat.le_of_ble_eq_true rfl, Nat.le_of_ble_eq_true rfl⟩ ⟨Nat.le_refl 0, Nat.le_refl 0⟩) (fun H locs I => ?_)
  refine lv_if_eq (tgt := 21) X.1 X.2.1 dX11_decades_7 (by decide) (fun c_1 => ?_) (fun c_1 => ?_)
  · skip
    have hE := ite_f hE (b2i_n c_1)
    refine lv_iconst (v := (-1)) X.1 X.2.1 dX11_decades_21 (by decide) ?_
    have h9 := hE
    exact r_iret X I (e_i (pr_1 h9) (pr_2 h9) (pr_3 h9)) dX11_decades_22
  · skip
    have hE := ite_t hE (b2i_y c_1)
    refine lv_iload_n X.1 X.2.1 dX11_decades_10 rfl (lv_at hl 1 rfl) ?_
    refine lv_iconst (v := 1) X.1 X.2.1 dX11_decades_11 (by decide) ?_
    refine lv_icmp_lt (tgt := 21) X.1 X.2.1 dX11_decades_12 (by decide) (fun c_2 => ?_) (fun c_2 => ?_)
    · skip
      have hE := ite_t hE c_2
      refine lv_iconst (v := (-1)) X.1 X.2.1 dX11_decades_21 (by decide) ?_
      have h9 := hE
      exact r_iret X I (e_i (pr_1 h9) (pr_2 h9) (pr_3 h9)) dX11_decades_22
    · skip
      have hE := ite_f hE c_2
      refine lv_iload_n X.1 X.2.1 dX11_decades_15 rfl (lv_at hl 1 rfl) ?_
      refine lv_bipush (v := 60) X.1 X.2.1 dX11_decades_16 (by decide) ?_
      refine lv_icmp_le (tgt := 23) X.1 X.2.1 dX11_decades_18 (by decide) (fun c_3 => ?_) (fun c_3 => ?_)
      · skip
        have hE := ite_t hE c_3
        refine lv_aload_n X.1 X.2.1 dX11_decades_23 rfl (lv_at hl 0 rfl) ?_
        refine lv_lload_n X.1 X.2.1 dX11_decades_24 rfl (lv_at hl 2 rfl) ?_
        refine p11_15 X I (k := 0) (by decide) rfl lf_X11_286 dX11_decades_25 (fun H locs I => ?_)
        refine lv_iconst (v := 0) X.1 X.2.1 dX11_decades_28 (by decide) ?_
        refine lv_istore (lv' := [(4, .int _), (0, .ref _), (1, .int _), (2, .long _)]) X.1 X.2.1 dX11_decades_29 hl (by decide) rfl (fun ls hl => ?_)
        refine lv_iconst (v := 0) X.1 X.2.1 dX11_decades_31 (by decide) ?_
        refine lv_istore (lv' := [(5, .int _), (4, .int _), (0, .ref _), (1, .int _), (2, .long _)]) X.1 X.2.1 dX11_decades_32 hl (by decide) rfl (fun ls hl => ?_)
        exact c11_decades_c34 X _ _ _ _ _ _ _ _ _ _ I (lv_sub hl [2, 3, 4, 1, 0] rfl) (fu1_lt _) (hE.trans (rfl))
      · skip
        have hE := ite_f hE c_3
        refine lv_iconst (v := (-1)) X.1 X.2.1 dX11_decades_21 (by decide) ?_
        have h9 := hE
        exact r_iret X I (e_i (pr_1 h9) (pr_2 h9) (pr_3 h9)) dX11_decades_22
