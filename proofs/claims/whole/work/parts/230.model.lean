noncomputable def f12_rival (σ : SI) (x1 : Int32) : Int32 := if (f12_isHouse σ x1) = true then (f12_rivalAt σ x1) else (-1 : Int32)
noncomputable def o12_rival (σ : SI) (x1 : Int32) : Prop := if (f12_isHouse σ x1) = true then ((o12_rivalAt σ x1) ∧ True) else True
set_option maxHeartbeats 4000000 in
set_option maxRecDepth 100000 in
theorem c12_rival (l : Launch) (G : GT) (σ : SI) (τ : SL) (x1 : Int32) (ho : o12_rival σ x1) : Mc l yX12_rival cX12_rival 2 (some .int) 3 G [.ref (G.2.1 123), .int x1] σ τ (Qi G (Ei (f12_rival σ x1) σ τ)) := by
  refine m_start (by decide +kernel) (Nat.le_of_ble_eq_true rfl) rfl (fun p e s m args below meth c ls X I hl => ?_)
  have hl : lv_has ls 2 [(0, .ref (G.2.1 123)), (1, .int x1)] := hl
  obtain ⟨E, hE⟩ : ∃ E, E = (f12_rival σ x1) := ⟨_, rfl⟩
  rw [← hE]
  unfold o12_rival at ho
  refine lv_aload_n X.1 X.2.1 dX12_rival_0 rfl (lv_at hl 0 rfl) ?_
  refine lv_iload_n X.1 X.2.1 dX12_rival_1 rfl (lv_at hl 1 rfl) ?_
  refine r_ei I (r_runV X I pk_X12_isHouse (c12_isHouse l G _ _ _) lm_X12_332 (by decide) (cl_12 rfl) rfl rfl rfl hl.1 rfl (Nat.le_of_ble_eq_true rfl) dX12_rival_2 ⟨Nat.le_of_ble_eq_true rfl, Nat.le_of_ble_eq_true rfl⟩ ⟨Nat.le_refl 0, Nat.le_refl 0⟩) (fun H locs I => ?_)
  refine lv_if_eq (tgt := 16) X.1 X.2.1 dX12_rival_5 (by decide) (fun c_1 => ?_) (fun c_1 => ?_)
  · skip
    have hE := ite_f hE (b2i_n c_1)
    have ho := ite_fP ho (b2i_n c_1)
    refine lv_iconst (v := (-1)) X.1 X.2.1 dX12_rival_16 (by decide) ?_
    have h9 := hE
    exact r_iret X I (e_i h9.symm rfl rfl) dX12_rival_17
  · skip
    have hE := ite_t hE (b2i_y c_1)
    have ho := ite_tP ho (b2i_y c_1)
    refine lv_aload_n X.1 X.2.1 dX12_rival_8 rfl (lv_at hl 0 rfl) ?_
    refine lv_iload_n X.1 X.2.1 dX12_rival_9 rfl (lv_at hl 1 rfl) ?_
    have ho1 := ho.1
    have ho := ho.2
    refine r_ei I (r_runV X I pk_X12_rivalAt (c12_rivalAt l G _ _ _ ho1) lm_X12_426 (by decide) (cl_12 rfl) rfl rfl rfl hl.1 rfl (Nat.le_of_ble_eq_true rfl) dX12_rival_10 ⟨Nat.le_of_ble_eq_true rfl, Nat.le_of_ble_eq_true rfl⟩ ⟨Nat.le_refl 0, Nat.le_refl 0⟩) (fun H locs I => ?_)
    refine lv_goto (tgt := 17) X.1 X.2.1 dX12_rival_13 (by decide) ?_
    have h9 := hE
    exact r_iret X I (e_i h9.symm rfl rfl) dX12_rival_17
noncomputable def f12_meets (σ : SI) (x1 : Int32) : Int32 × SI := if (f12_isHouse σ x1) = true then (if (f12_rivalAt σ x1) = (-1 : Int32) then ((0 : Int32), σ) else (let r0 := (f12_standsNow σ x1); if (((σ 140 8) + (f12_stepsNow σ x1)) + (if (1 : Int32) < r0.1 then r0.1 else (1 : Int32))) ≤ (f12_rivalAt σ x1) then ((0 : Int32), r0.2) else (if ((f12_rivalAt σ x1) + (2 : Int32)) ≤ ((σ 140 8) + (f12_stepsNow σ x1)) then ((0 : Int32), r0.2) else ((1 : Int32), r0.2)))) else ((-1 : Int32), σ)
noncomputable def o12_meets (σ : SI) (x1 : Int32) : Prop := if (f12_isHouse σ x1) = true then ((o12_rivalAt σ x1) ∧ ((o12_stepsNow σ x1) ∧ (if (f12_rivalAt σ x1) = (-1 : Int32) then True else ((o12_standsNow σ x1) ∧ (let r0 := (f12_standsNow σ x1); if (((σ 140 8) + (f12_stepsNow σ x1)) + (if (1 : Int32) < r0.1 then r0.1 else (1 : Int32))) ≤ (f12_rivalAt σ x1) then True else (if ((f12_rivalAt σ x1) + (2 : Int32)) ≤ ((σ 140 8) + (f12_stepsNow σ x1)) then True else True)))))) else True
theorem w_f12_meets (σ : SI) (x1 : Int32) (a : Nat) (h0 : a ≠ 132) (h1 : a ≠ 133) : (f12_meets σ x1).2 a = σ a := by
  refine fp_to2 ?_
  unfold f12_meets
  exact (fr_ite2 (fr_ite2 (fr_mk21 rfl) (fr_ite2 (fr_mk21 (w_f12_standsNow _ _ a h0 h1)) (fr_ite2 (fr_mk21 (w_f12_standsNow _ _ a h0 h1)) (fr_mk21 (w_f12_standsNow _ _ a h0 h1))))) (fr_mk21 rfl))
set_option maxHeartbeats 4000000 in
set_option maxRecDepth 100000 in
theorem c12_meets (l : Launch) (G : GT) (σ : SI) (τ : SL) (x1 : Int32) (ho : o12_meets σ x1) : Mc l yX12_meets cX12_meets 4 (some .int) 8 G [.ref (G.2.1 123), .int x1] σ τ (Qi G (Ei (f12_meets σ x1).1 (f12_meets σ x1).2 τ)) := by
  refine m_start (by decide +kernel) (Nat.le_of_ble_eq_true rfl) rfl (fun p e s m args below meth c ls X I hl => ?_)
  have hl : lv_has ls 4 [(0, .ref (G.2.1 123)), (1, .int x1)] := hl
  obtain ⟨E, hE⟩ : ∃ E, E = (f12_meets σ x1) := ⟨_, rfl⟩
  rw [← hE]
  unfold o12_meets at ho
  refine lv_aload_n X.1 X.2.1 dX12_meets_0 rfl (lv_at hl 0 rfl) ?_
  refine lv_iload_n X.1 X.2.1 dX12_meets_1 rfl (lv_at hl 1 rfl) ?_
  refine r_ei I (r_runV X I pk_X12_isHouse (c12_isHouse l G _ _ _) lm_X12_332 (by decide) (cl_12 rfl) rfl rfl rfl hl.1 rfl (Nat.le_of_ble_eq_true rfl) dX12_meets_2 ⟨Nat.le_of_ble_eq_true rfl, Nat.le_of_ble_eq_true rfl⟩ ⟨Nat.le_refl 0, Nat.le_refl 0⟩) (fun H locs I => ?_)
  refine lv_if_ne (tgt := 10) X.1 X.2.1 dX12_meets_5 (by decide) (fun c_1 => ?_) (fun c_1 => ?_)
  · skip
    have hE := ite_t hE (b2i_y c_1)
    have ho := ite_tP ho (b2i_y c_1)
    refine lv_aload_n X.1 X.2.1 dX12_meets_10 rfl (lv_at hl 0 rfl) ?_
    refine lv_iload_n X.1 X.2.1 dX12_meets_11 rfl (lv_at hl 1 rfl) ?_
    have ho1 := ho.1
    have ho := ho.2
    refine r_ei I (r_runV X I pk_X12_rivalAt (c12_rivalAt l G _ _ _ ho1) lm_X12_426 (by decide) (cl_12 rfl) rfl rfl rfl hl.1 rfl (Nat.le_of_ble_eq_true rfl) dX12_meets_12 ⟨Nat.le_of_ble_eq_true rfl, Nat.le_of_ble_eq_true rfl⟩ ⟨Nat.le_refl 0, Nat.le_refl 0⟩) (fun H locs I => ?_)
    refine lv_istore_n (lv' := [(2, .int _), (0, .ref _), (1, .int _)]) X.1 X.2.1 dX12_meets_15 rfl hl (by decide) rfl (fun ls hl => ?_)
    refine lv_aload_n X.1 X.2.1 dX12_meets_16 rfl (lv_at hl 1 rfl) ?_
    refine g12_27 X I (k := 123) (by decide) rfl lf_X12_58 dX12_meets_17 ?_
    refine lv_bipush (v := 8) X.1 X.2.1 dX12_meets_20 (by decide) ?_
    refine r_ald X I (k := 140) (n := 255) (by decide) rfl (by unfold vp_in; decide) dX12_meets_22 ?_
    refine lv_aload_n X.1 X.2.1 dX12_meets_23 rfl (lv_at hl 1 rfl) ?_
    refine lv_iload_n X.1 X.2.1 dX12_meets_24 rfl (lv_at hl 2 rfl) ?_
    have ho2 := ho.1
    have ho := ho.2
    refine r_ei I (r_runV X I pk_X12_stepsNow (c12_stepsNow l G _ _ _ ho2) lm_X12_313 (by decide) (cl_12 rfl) rfl rfl rfl hl.1 rfl (Nat.le_of_ble_eq_true rfl) dX12_meets_25 ⟨Nat.le_of_ble_eq_true rfl, Nat.le_of_ble_eq_true rfl⟩ ⟨Nat.le_refl 0, Nat.le_refl 0⟩) (fun H locs I => ?_)
    refine lv_iadd X.1 X.2.1 dX12_meets_28 ?_
    refine lv_istore_n (lv' := [(3, .int _), (2, .int _), (0, .ref _), (1, .int _)]) X.1 X.2.1 dX12_meets_29 rfl hl (by decide) rfl (fun ls hl => ?_)
    refine lv_iload_n X.1 X.2.1 dX12_meets_30 rfl (lv_at hl 1 rfl) ?_
    refine lv_iconst (v := (-1)) X.1 X.2.1 dX12_meets_31 (by decide) ?_
    refine lv_icmp_eq (tgt := 61) X.1 X.2.1 dX12_meets_32 (by decide) (fun c_2 => ?_) (fun c_2 => ?_)
    · skip
      have hE := ite_t hE c_2
      have ho := ite_tP ho c_2
      refine lv_iconst (v := 0) X.1 X.2.1 dX12_meets_61 (by decide) ?_
      have h9 := hE
      exact r_iret X I (e_i (pr_fst h9) (pr_snd h9) rfl) dX12_meets_62
    · skip
      have hE := ite_f hE c_2
      have ho := ite_fP ho c_2
      refine lv_iload_n X.1 X.2.1 dX12_meets_35 rfl (lv_at hl 1 rfl) ?_
      refine lv_iload_n X.1 X.2.1 dX12_meets_36 rfl (lv_at hl 0 rfl) ?_
      refine lv_iconst (v := 1) X.1 X.2.1 dX12_meets_37 (by decide) ?_
      refine lv_aload_n X.1 X.2.1 dX12_meets_38 rfl (lv_at hl 2 rfl) ?_
      refine lv_iload_n X.1 X.2.1 dX12_meets_39 rfl (lv_at hl 3 rfl) ?_
      have ho3 := ho.1
      have ho := ho.2
      refine r_ei I (r_runV X I pk_X12_standsNow (c12_standsNow l G _ _ _ ho3) lm_X12_326 (by decide) (cl_12 rfl) rfl rfl rfl hl.1 rfl (Nat.le_of_ble_eq_true rfl) dX12_meets_40 ⟨Nat.le_of_ble_eq_true rfl, Nat.le_of_ble_eq_true rfl⟩ ⟨Nat.le_refl 0, Nat.le_refl 0⟩) (fun H locs I => ?_)
      refine r_mmax X hl.1 lm_X12_303 ls_J9_max_7cf53 ln_J9 lc_J9_max_7cf53 (Nat.le_of_ble_eq_true rfl) (Nat.le_of_ble_eq_true rfl) (Nat.le_refl 0) (Nat.le_refl 0) dX12_meets_43 ?_
      refine lv_iadd X.1 X.2.1 dX12_meets_46 ?_
      refine lv_icmp_ge (tgt := 61) X.1 X.2.1 dX12_meets_47 (by decide) (fun c_3 => ?_) (fun c_3 => ?_)
      · skip
        have hE := ite_t hE c_3
        have ho := ite_tP ho c_3
        refine lv_iconst (v := 0) X.1 X.2.1 dX12_meets_61 (by decide) ?_
        have h9 := hE
        exact r_iret X I (e_i (pr_fst h9) (pr_snd h9) rfl) dX12_meets_62
      · skip
        have hE := ite_f hE c_3
        have ho := ite_fP ho c_3
        refine lv_iload_n X.1 X.2.1 dX12_meets_50 rfl (lv_at hl 0 rfl) ?_
        refine lv_iload_n X.1 X.2.1 dX12_meets_51 rfl (lv_at hl 1 rfl) ?_
        refine lv_iconst (v := 2) X.1 X.2.1 dX12_meets_52 (by decide) ?_
        refine lv_iadd X.1 X.2.1 dX12_meets_53 ?_
        refine lv_icmp_ge (tgt := 61) X.1 X.2.1 dX12_meets_54 (by decide) (fun c_4 => ?_) (fun c_4 => ?_)
        · skip
          have hE := ite_t hE c_4
          have ho := ite_tP ho c_4
          refine lv_iconst (v := 0) X.1 X.2.1 dX12_meets_61 (by decide) ?_
          have h9 := hE
          exact r_iret X I (e_i (pr_fst h9) (pr_snd h9) rfl) dX12_meets_62
        · skip
          have hE := ite_f hE c_4
          have ho := ite_fP ho c_4
          refine lv_iconst (v := 1) X.1 X.2.1 dX12_meets_57 (by decide) ?_
          refine lv_goto (tgt := 62) X.1 X.2.1 dX12_meets_58 (by decide) ?_
          have h9 := hE
          exact r_iret X I (e_i (pr_fst h9) (pr_snd h9) rfl) dX12_meets_62
  · skip
    have hE := ite_f hE (b2i_n c_1)
    have ho := ite_fP ho (b2i_n c_1)
    refine lv_iconst (v := (-1)) X.1 X.2.1 dX12_meets_8 (by decide) ?_
    have h9 := hE
    exact r_iret X I (e_i (pr_fst h9) (pr_snd h9) rfl) dX12_meets_9
noncomputable def f12_seen (σ : SI) (x1 : Int32) (x2 : Int32) (x3 : Bool) : Int32 × SI := if (f12_isHouse σ x2) = true then (if (f12_in x1 (0 : Int32) (6 : Int32)) = true then (if (σ 123 48) = (10 : Int32) then ((-1 : Int32), σ) else (let s0 := sp σ 149 (Int32.toNatClampNeg (σ 123 48)) x1; let s1 := sp s0 150 (Int32.toNatClampNeg (σ 123 48)) x2; let s2 := sp s1 151 (Int32.toNatClampNeg (σ 123 48)) (b2i x3); let s3 := sp s2 123 48 ((σ 123 48) + (1 : Int32)); (((σ 123 48) + (1 : Int32)), s3))) else ((-1 : Int32), σ)) else ((-1 : Int32), σ)
noncomputable def o12_seen (σ : SI) (x1 : Int32) (x2 : Int32) (x3 : Bool) : Prop := if (f12_isHouse σ x2) = true then (if (f12_in x1 (0 : Int32) (6 : Int32)) = true then (if (σ 123 48) = (10 : Int32) then True else ((vp_in (σ 123 48) 10) ∧ (let s0 := sp σ 149 (Int32.toNatClampNeg (σ 123 48)) x1; (vp_in (σ 123 48) 10) ∧ (let s1 := sp s0 150 (Int32.toNatClampNeg (σ 123 48)) x2; (vp_in (σ 123 48) 10) ∧ (let s2 := sp s1 151 (Int32.toNatClampNeg (σ 123 48)) (b2i x3); let s3 := sp s2 123 48 ((σ 123 48) + (1 : Int32)); True))))) else True) else True
theorem w_f12_seen (σ : SI) (x1 : Int32) (x2 : Int32) (x3 : Bool) (a : Nat) (h0 : a ≠ 123) (h1 : a ≠ 149) (h2 : a ≠ 150) (h3 : a ≠ 151) : (f12_seen σ x1 x2 x3).2 a = σ a := by
  refine fp_to2 ?_
  unfold f12_seen
  exact (fr_ite2 (fr_ite2 (fr_ite2 (fr_mk21 rfl) (fr_mk21 ((sp_n h0).trans ((sp_n h3).trans ((sp_n h2).trans (sp_n h1)))))) (fr_mk21 rfl)) (fr_mk21 rfl))
set_option maxHeartbeats 4000000 in
set_option maxRecDepth 100000 in
theorem c12_seen (l : Launch) (G : GT) (σ : SI) (τ : SL) (x1 : Int32) (x2 : Int32) (x3 : Bool) (ho : o12_seen σ x1 x2 x3) : Mc l yX12_seen cX12_seen 4 (some .int) 2 G [.ref (G.2.1 123), .int x1, .int x2, .int (b2i x3)] σ τ (Qi G (Ei (f12_seen σ x1 x2 x3).1 (f12_seen σ x1 x2 x3).2 τ)) := by
  refine m_start (by decide +kernel) (Nat.le_of_ble_eq_true rfl) rfl (fun p e s m args below meth c ls X I hl => ?_)
  have hl : lv_has ls 4 [(0, .ref (G.2.1 123)), (1, .int x1), (2, .int x2), (3, .int (b2i x3))] := hl
  obtain ⟨E, hE⟩ : ∃ E, E = (f12_seen σ x1 x2 x3) := ⟨_, rfl⟩
  rw [← hE]
  unfold o12_seen at ho
  refine lv_aload_n X.1 X.2.1 dX12_seen_0 rfl (lv_at hl 0 rfl) ?_
  refine lv_iload_n X.1 X.2.1 dX12_seen_1 rfl (lv_at hl 2 rfl) ?_
  refine r_ei I (r_runV X I pk_X12_isHouse (c12_isHouse l G _ _ _) lm_X12_332 (by decide) (cl_12 rfl) rfl rfl rfl hl.1 rfl (Nat.le_of_ble_eq_true rfl) dX12_seen_2 ⟨Nat.le_of_ble_eq_true rfl, Nat.le_of_ble_eq_true rfl⟩ ⟨Nat.le_refl 0, Nat.le_refl 0⟩) (fun H locs I => ?_)
  refine lv_if_eq (tgt := 27) X.1 X.2.1 dX12_seen_5 (by decide) (fun c_1 => ?_) (fun c_1 => ?_)
  · skip
    have hE := ite_f hE (b2i_n c_1)
    have ho := ite_fP ho (b2i_n c_1)
    refine lv_iconst (v := (-1)) X.1 X.2.1 dX12_seen_27 (by decide) ?_
    have h9 := hE
    exact r_iret X I (e_i (pr_fst h9) (pr_snd h9) rfl) dX12_seen_28
  · skip
    have hE := ite_t hE (b2i_y c_1)
    have ho := ite_tP ho (b2i_y c_1)
    refine lv_iload_n X.1 X.2.1 dX12_seen_8 rfl (lv_at hl 1 rfl) ?_
    refine lv_iconst (v := 0) X.1 X.2.1 dX12_seen_9 (by decide) ?_
    refine lv_bipush (v := 6) X.1 X.2.1 dX12_seen_10 (by decide) ?_
    refine r_ei I (r_runS X I pk_X12_in (c12_in l G _ _ _ _ _) lm_X12_220 rfl hl.1 rfl (Nat.le_of_ble_eq_true rfl) dX12_seen_12 ⟨Nat.le_of_ble_eq_true rfl, Nat.le_of_ble_eq_true rfl⟩ ⟨Nat.le_refl 0, Nat.le_refl 0⟩) (fun H locs I => ?_)
    refine lv_if_eq (tgt := 27) X.1 X.2.1 dX12_seen_15 (by decide) (fun c_2 => ?_) (fun c_2 => ?_)
    · skip
      have hE := ite_f hE (b2i_n c_2)
      have ho := ite_fP ho (b2i_n c_2)
      refine lv_iconst (v := (-1)) X.1 X.2.1 dX12_seen_27 (by decide) ?_
      have h9 := hE
      exact r_iret X I (e_i (pr_fst h9) (pr_snd h9) rfl) dX12_seen_28
    · skip
      have hE := ite_t hE (b2i_y c_2)
      have ho := ite_tP ho (b2i_y c_2)
      refine lv_aload_n X.1 X.2.1 dX12_seen_18 rfl (lv_at hl 0 rfl) ?_
      refine g12_48 X I (k := 123) (by decide) rfl lf_X12_276 dX12_seen_19 ?_
      refine lv_bipush (v := 10) X.1 X.2.1 dX12_seen_22 (by decide) ?_
      refine lv_icmp_ne (tgt := 29) X.1 X.2.1 dX12_seen_24 (by decide) (fun c_3 => ?_) (fun c_3 => ?_)
      · skip
        have hE := ite_f hE c_3
        have ho := ite_fP ho c_3
        refine lv_aload_n X.1 X.2.1 dX12_seen_29 rfl (lv_at hl 0 rfl) ?_
        refine g12_45 X I (k := 123) (by decide) rfl lf_X12_92 dX12_seen_30 ?_
        refine lv_aload_n X.1 X.2.1 dX12_seen_33 rfl (lv_at hl 0 rfl) ?_
        refine g12_48 X I (k := 123) (by decide) rfl lf_X12_276 dX12_seen_34 ?_
        refine lv_iload_n X.1 X.2.1 dX12_seen_37 rfl (lv_at hl 1 rfl) ?_
        have ho1 := ho.1
        have ho := ho.2
        refine r_ast X I (k := 149) (n := 10) (by decide) rfl ho1 dX12_seen_38 (fun H locs I => ?_)
        refine lv_aload_n X.1 X.2.1 dX12_seen_39 rfl (lv_at hl 0 rfl) ?_
        refine g12_46 X I (k := 123) (by decide) rfl lf_X12_95 dX12_seen_40 ?_
        refine lv_aload_n X.1 X.2.1 dX12_seen_43 rfl (lv_at hl 0 rfl) ?_
        refine g12_48 X I (k := 123) (by decide) rfl lf_X12_276 dX12_seen_44 ?_
        refine lv_iload_n X.1 X.2.1 dX12_seen_47 rfl (lv_at hl 2 rfl) ?_
        have ho2 := ho.1
        have ho := ho.2
        refine r_ast X I (k := 150) (n := 10) (by decide) rfl ho2 dX12_seen_48 (fun H locs I => ?_)
        refine lv_aload_n X.1 X.2.1 dX12_seen_49 rfl (lv_at hl 0 rfl) ?_
        refine g12_47 X I (k := 123) (by decide) rfl lf_X12_98 dX12_seen_50 ?_
        refine lv_aload_n X.1 X.2.1 dX12_seen_53 rfl (lv_at hl 0 rfl) ?_
        refine g12_48 X I (k := 123) (by decide) rfl lf_X12_276 dX12_seen_54 ?_
        refine lv_iload_n X.1 X.2.1 dX12_seen_57 rfl (lv_at hl 3 rfl) ?_
        have ho3 := ho.1
        have ho := ho.2
        refine r_zast X I (k := 151) (by decide) rfl ho3 (b2i_vnar _) dX12_seen_58 (fun H locs I => ?_)
        refine lv_aload_n X.1 X.2.1 dX12_seen_59 rfl (lv_at hl 0 rfl) ?_
        refine lv_dup X.1 X.2.1 dX12_seen_60 rfl ?_
        refine g12_48 X I (k := 123) (by decide) rfl lf_X12_276 dX12_seen_61 ?_
        refine lv_iconst (v := 1) X.1 X.2.1 dX12_seen_64 (by decide) ?_
        refine lv_iadd X.1 X.2.1 dX12_seen_65 ?_
        refine p12_48 X I (k := 123) (by decide) rfl lf_X12_276 dX12_seen_66 (fun H locs I => ?_)
        refine lv_aload_n X.1 X.2.1 dX12_seen_69 rfl (lv_at hl 0 rfl) ?_
        refine g12_48 X I (k := 123) (by decide) rfl lf_X12_276 dX12_seen_70 ?_
        have h9 := hE
        exact r_iret X I (e_i (pr_fst h9) (pr_snd h9) rfl) dX12_seen_73
      · skip
        have hE := ite_t hE c_3
        have ho := ite_tP ho c_3
        refine lv_iconst (v := (-1)) X.1 X.2.1 dX12_seen_27 (by decide) ?_
        have h9 := hE
        exact r_iret X I (e_i (pr_fst h9) (pr_snd h9) rfl) dX12_seen_28
noncomputable def f12_isSo_c71 (σ : SI) (x1 : Int32) (x2 : Int32) (x3 : Int32) (x4 : Int32) : Nat → Bool → Int32 → (Bool × SI)
  | 0, _, _ => (false, σ)
  | fu + 1, v5, v6 => if (σ 123 48) ≤ v6 then (if x1 = (9 : Int32) then (v5, σ) else (let s1 := sp σ 138 (Int32.toNatClampNeg (((4 : Int32) * x1) + (2 : Int32))) x3; (v5, s1))) else (if v5 = true then (if x4 ≤ (σ 149 (Int32.toNatClampNeg v6)) then (if (0 : Int32) = (σ 151 (Int32.toNatClampNeg v6)) then (f12_isSo_c71 σ x1 x2 x3 x4 fu true (v6 + 1)) else (f12_isSo_c71 σ x1 x2 x3 x4 fu false (v6 + 1))) else (if (σ 144 (Int32.toNatClampNeg (σ 149 (Int32.toNatClampNeg v6)))) = (σ 150 (Int32.toNatClampNeg v6)) then (if (1 : Int32) = (σ 151 (Int32.toNatClampNeg v6)) then (f12_isSo_c71 σ x1 x2 x3 x4 fu true (v6 + 1)) else (f12_isSo_c71 σ x1 x2 x3 x4 fu false (v6 + 1))) else (if (0 : Int32) = (σ 151 (Int32.toNatClampNeg v6)) then (f12_isSo_c71 σ x1 x2 x3 x4 fu true (v6 + 1)) else (f12_isSo_c71 σ x1 x2 x3 x4 fu false (v6 + 1))))) else (f12_isSo_c71 σ x1 x2 x3 x4 fu false (v6 + 1)))
noncomputable def o12_isSo_c71 (σ : SI) (x1 : Int32) (x2 : Int32) (x3 : Int32) (x4 : Int32) : Nat → Bool → Int32 → Prop
  | 0, _, _ => True
  | fu + 1, v5, v6 => if (σ 123 48) ≤ v6 then (if x1 = (9 : Int32) then True else ((vp_in (((4 : Int32) * x1) + (2 : Int32)) 28) ∧ (let s1 := sp σ 138 (Int32.toNatClampNeg (((4 : Int32) * x1) + (2 : Int32))) x3; True))) else (if v5 = true then ((vp_in v6 10) ∧ (if x4 ≤ (σ 149 (Int32.toNatClampNeg v6)) then ((vp_in v6 10) ∧ (if (0 : Int32) = (σ 151 (Int32.toNatClampNeg v6)) then (o12_isSo_c71 σ x1 x2 x3 x4 fu true (v6 + 1)) else (o12_isSo_c71 σ x1 x2 x3 x4 fu false (v6 + 1)))) else ((vp_in v6 10) ∧ ((vp_in (σ 149 (Int32.toNatClampNeg v6)) 7) ∧ ((vp_in v6 10) ∧ (if (σ 144 (Int32.toNatClampNeg (σ 149 (Int32.toNatClampNeg v6)))) = (σ 150 (Int32.toNatClampNeg v6)) then ((vp_in v6 10) ∧ (if (1 : Int32) = (σ 151 (Int32.toNatClampNeg v6)) then (o12_isSo_c71 σ x1 x2 x3 x4 fu true (v6 + 1)) else (o12_isSo_c71 σ x1 x2 x3 x4 fu false (v6 + 1)))) else ((vp_in v6 10) ∧ (if (0 : Int32) = (σ 151 (Int32.toNatClampNeg v6)) then (o12_isSo_c71 σ x1 x2 x3 x4 fu true (v6 + 1)) else (o12_isSo_c71 σ x1 x2 x3 x4 fu false (v6 + 1)))))))))) else (o12_isSo_c71 σ x1 x2 x3 x4 fu false (v6 + 1)))
noncomputable def f12_isSo (σ : SI) (x1 : Int32) (x2 : Int32) : Bool × SI := if x1 = (9 : Int32) then (if x1 = (9 : Int32) then (if x1 = (9 : Int32) then (let r4 := (f12_layOrder σ true (0 : Int32)); (f12_isSo_c71 r4.2 x1 x2 (0 : Int32) r4.1 (fu1 ((Int32.toInt (r4.2 123 48) - Int32.toInt (0 : Int32)).toNat)) true (0 : Int32))) else (let s5 := sp σ 138 (Int32.toNatClampNeg (((4 : Int32) * x1) + (2 : Int32))) (if ((0 : Int32) + x2) < (30 : Int32) then ((0 : Int32) + x2) else (30 : Int32)); let r6 := (f12_layOrder s5 true (0 : Int32)); (f12_isSo_c71 r6.2 x1 x2 (0 : Int32) r6.1 (fu1 ((Int32.toInt (r6.2 123 48) - Int32.toInt (0 : Int32)).toNat)) true (0 : Int32)))) else (if x1 = (9 : Int32) then (let r0 := (f12_layOrder σ true (0 : Int32)); (f12_isSo_c71 r0.2 x1 x2 (f12_of σ x1 (2 : Int32)) r0.1 (fu1 ((Int32.toInt (r0.2 123 48) - Int32.toInt (0 : Int32)).toNat)) true (0 : Int32))) else (let s2 := sp σ 138 (Int32.toNatClampNeg (((4 : Int32) * x1) + (2 : Int32))) (if ((f12_of σ x1 (2 : Int32)) + x2) < (30 : Int32) then ((f12_of σ x1 (2 : Int32)) + x2) else (30 : Int32)); let r3 := (f12_layOrder s2 true (0 : Int32)); (f12_isSo_c71 r3.2 x1 x2 (f12_of σ x1 (2 : Int32)) r3.1 (fu1 ((Int32.toInt (r3.2 123 48) - Int32.toInt (0 : Int32)).toNat)) true (0 : Int32))))) else (if (f12_isHouse σ x1) = true then (if x1 = (9 : Int32) then (if x1 = (9 : Int32) then (let r10 := (f12_layOrder σ true (0 : Int32)); (f12_isSo_c71 r10.2 x1 x2 (0 : Int32) r10.1 (fu1 ((Int32.toInt (r10.2 123 48) - Int32.toInt (0 : Int32)).toNat)) true (0 : Int32))) else (let s11 := sp σ 138 (Int32.toNatClampNeg (((4 : Int32) * x1) + (2 : Int32))) (if ((0 : Int32) + x2) < (30 : Int32) then ((0 : Int32) + x2) else (30 : Int32)); let r12 := (f12_layOrder s11 true (0 : Int32)); (f12_isSo_c71 r12.2 x1 x2 (0 : Int32) r12.1 (fu1 ((Int32.toInt (r12.2 123 48) - Int32.toInt (0 : Int32)).toNat)) true (0 : Int32)))) else (if x1 = (9 : Int32) then (let r7 := (f12_layOrder σ true (0 : Int32)); (f12_isSo_c71 r7.2 x1 x2 (f12_of σ x1 (2 : Int32)) r7.1 (fu1 ((Int32.toInt (r7.2 123 48) - Int32.toInt (0 : Int32)).toNat)) true (0 : Int32))) else (let s8 := sp σ 138 (Int32.toNatClampNeg (((4 : Int32) * x1) + (2 : Int32))) (if ((f12_of σ x1 (2 : Int32)) + x2) < (30 : Int32) then ((f12_of σ x1 (2 : Int32)) + x2) else (30 : Int32)); let r9 := (f12_layOrder s8 true (0 : Int32)); (f12_isSo_c71 r9.2 x1 x2 (f12_of σ x1 (2 : Int32)) r9.1 (fu1 ((Int32.toInt (r9.2 123 48) - Int32.toInt (0 : Int32)).toNat)) true (0 : Int32))))) else (false, σ))
noncomputable def o12_isSo (σ : SI) (x1 : Int32) (x2 : Int32) : Prop := if x1 = (9 : Int32) then (if x1 = (9 : Int32) then (if x1 = (9 : Int32) then ((o12_layOrder σ true (0 : Int32)) ∧ (let r4 := (f12_layOrder σ true (0 : Int32)); (o12_isSo_c71 r4.2 x1 x2 (0 : Int32) r4.1 (fu1 ((Int32.toInt (r4.2 123 48) - Int32.toInt (0 : Int32)).toNat)) true (0 : Int32)))) else ((vp_in (((4 : Int32) * x1) + (2 : Int32)) 28) ∧ (let s5 := sp σ 138 (Int32.toNatClampNeg (((4 : Int32) * x1) + (2 : Int32))) (if ((0 : Int32) + x2) < (30 : Int32) then ((0 : Int32) + x2) else (30 : Int32)); (o12_layOrder s5 true (0 : Int32)) ∧ (let r6 := (f12_layOrder s5 true (0 : Int32)); (o12_isSo_c71 r6.2 x1 x2 (0 : Int32) r6.1 (fu1 ((Int32.toInt (r6.2 123 48) - Int32.toInt (0 : Int32)).toNat)) true (0 : Int32)))))) else ((o12_of σ x1 (2 : Int32)) ∧ (if x1 = (9 : Int32) then ((o12_layOrder σ true (0 : Int32)) ∧ (let r0 := (f12_layOrder σ true (0 : Int32)); (o12_isSo_c71 r0.2 x1 x2 (f12_of σ x1 (2 : Int32)) r0.1 (fu1 ((Int32.toInt (r0.2 123 48) - Int32.toInt (0 : Int32)).toNat)) true (0 : Int32)))) else ((vp_in (((4 : Int32) * x1) + (2 : Int32)) 28) ∧ (let s2 := sp σ 138 (Int32.toNatClampNeg (((4 : Int32) * x1) + (2 : Int32))) (if ((f12_of σ x1 (2 : Int32)) + x2) < (30 : Int32) then ((f12_of σ x1 (2 : Int32)) + x2) else (30 : Int32)); (o12_layOrder s2 true (0 : Int32)) ∧ (let r3 := (f12_layOrder s2 true (0 : Int32)); (o12_isSo_c71 r3.2 x1 x2 (f12_of σ x1 (2 : Int32)) r3.1 (fu1 ((Int32.toInt (r3.2 123 48) - Int32.toInt (0 : Int32)).toNat)) true (0 : Int32)))))))) else (if (f12_isHouse σ x1) = true then (if x1 = (9 : Int32) then (if x1 = (9 : Int32) then ((o12_layOrder σ true (0 : Int32)) ∧ (let r10 := (f12_layOrder σ true (0 : Int32)); (o12_isSo_c71 r10.2 x1 x2 (0 : Int32) r10.1 (fu1 ((Int32.toInt (r10.2 123 48) - Int32.toInt (0 : Int32)).toNat)) true (0 : Int32)))) else ((vp_in (((4 : Int32) * x1) + (2 : Int32)) 28) ∧ (let s11 := sp σ 138 (Int32.toNatClampNeg (((4 : Int32) * x1) + (2 : Int32))) (if ((0 : Int32) + x2) < (30 : Int32) then ((0 : Int32) + x2) else (30 : Int32)); (o12_layOrder s11 true (0 : Int32)) ∧ (let r12 := (f12_layOrder s11 true (0 : Int32)); (o12_isSo_c71 r12.2 x1 x2 (0 : Int32) r12.1 (fu1 ((Int32.toInt (r12.2 123 48) - Int32.toInt (0 : Int32)).toNat)) true (0 : Int32)))))) else ((o12_of σ x1 (2 : Int32)) ∧ (if x1 = (9 : Int32) then ((o12_layOrder σ true (0 : Int32)) ∧ (let r7 := (f12_layOrder σ true (0 : Int32)); (o12_isSo_c71 r7.2 x1 x2 (f12_of σ x1 (2 : Int32)) r7.1 (fu1 ((Int32.toInt (r7.2 123 48) - Int32.toInt (0 : Int32)).toNat)) true (0 : Int32)))) else ((vp_in (((4 : Int32) * x1) + (2 : Int32)) 28) ∧ (let s8 := sp σ 138 (Int32.toNatClampNeg (((4 : Int32) * x1) + (2 : Int32))) (if ((f12_of σ x1 (2 : Int32)) + x2) < (30 : Int32) then ((f12_of σ x1 (2 : Int32)) + x2) else (30 : Int32)); (o12_layOrder s8 true (0 : Int32)) ∧ (let r9 := (f12_layOrder s8 true (0 : Int32)); (o12_isSo_c71 r9.2 x1 x2 (f12_of σ x1 (2 : Int32)) r9.1 (fu1 ((Int32.toInt (r9.2 123 48) - Int32.toInt (0 : Int32)).toNat)) true (0 : Int32)))))))) else True)
theorem w_f12_isSo_c71 (x1 : Int32) (x2 : Int32) (x3 : Int32) (x4 : Int32) (σ : SI) (a : Nat) (h0 : a ≠ 138) (h1 : a ≠ 144) : ∀ (fu : Nat) (v5 : Bool) (v6 : Int32), (f12_isSo_c71 σ x1 x2 x3 x4 fu v5 v6).2 a = σ a := by
  intro fu
  induction fu with
  | zero => intro v5 v6; exact rfl
  | succ fu ih =>
    intro v5 v6
    refine fp_to2 ?_
    unfold f12_isSo_c71
    exact (fr_ite2 (fr_ite2 (fr_mk21 rfl) (fr_mk21 (sp_n h0))) (fr_ite2 (fr_ite2 (fr_ite2 (fp_of2 ((ih _ _))) (fp_of2 ((ih _ _)))) (fr_ite2 (fr_ite2 (fp_of2 ((ih _ _))) (fp_of2 ((ih _ _)))) (fr_ite2 (fp_of2 ((ih _ _))) (fp_of2 ((ih _ _)))))) (fp_of2 ((ih _ _)))))
theorem w_f12_isSo (σ : SI) (x1 : Int32) (x2 : Int32) (a : Nat) (h0 : a ≠ 138) (h1 : a ≠ 144) : (f12_isSo σ x1 x2).2 a = σ a := by
  refine fp_to2 ?_
  unfold f12_isSo
  exact (fr_ite2 (fr_ite2 (fr_ite2 (fp_of2 (((w_f12_isSo_c71 _ _ _ _ _ a h0 h1 _ _ _).trans (w_f12_layOrder _ _ _ a h1)))) (fp_of2 (((w_f12_isSo_c71 _ _ _ _ _ a h0 h1 _ _ _).trans ((w_f12_layOrder _ _ _ a h1).trans (sp_n h0)))))) (fr_ite2 (fp_of2 (((w_f12_isSo_c71 _ _ _ _ _ a h0 h1 _ _ _).trans (w_f12_layOrder _ _ _ a h1)))) (fp_of2 (((w_f12_isSo_c71 _ _ _ _ _ a h0 h1 _ _ _).trans ((w_f12_layOrder _ _ _ a h1).trans (sp_n h0))))))) (fr_ite2 (fr_ite2 (fr_ite2 (fp_of2 (((w_f12_isSo_c71 _ _ _ _ _ a h0 h1 _ _ _).trans (w_f12_layOrder _ _ _ a h1)))) (fp_of2 (((w_f12_isSo_c71 _ _ _ _ _ a h0 h1 _ _ _).trans ((w_f12_layOrder _ _ _ a h1).trans (sp_n h0)))))) (fr_ite2 (fp_of2 (((w_f12_isSo_c71 _ _ _ _ _ a h0 h1 _ _ _).trans (w_f12_layOrder _ _ _ a h1)))) (fp_of2 (((w_f12_isSo_c71 _ _ _ _ _ a h0 h1 _ _ _).trans ((w_f12_layOrder _ _ _ a h1).trans (sp_n h0))))))) (fr_mk21 rfl)))
set_option maxHeartbeats 4000000 in
set_option maxRecDepth 100000 in
theorem c12_isSo_c71 {l : Launch} {p : Program} {e : Env} {s : State} {m : MethodId} {args : Array Value} {below : List Frame} {meth : Method} {c : Code} {G : GT} (X : CX p s m args meth c cX12_isSo RX12 7 (some .boolean) G) {E : Bool × SI} (σ : SI) (τ : SL) (x1 : Int32) (x2 : Int32) (x3 : Int32) (x4 : Int32) : ∀ (fu : Nat) (v5 : Bool) (v6 : Int32) (H : Heap) (locs : List Loc) (ls : Array Slot), IX G s H locs σ τ → lv_has ls 7 [(0, .ref (G.2.1 123)), (1, .int x1), (2, .int x2), (3, .int x3), (4, .int x4), (5, .int (b2i v5)), (6, .int v6)] → (o12_isSo_c71 σ x1 x2 x3 x4 fu v5 v6) → (Int32.toInt (σ 123 48) - Int32.toInt v6).toNat < fu → E = (f12_isSo_c71 σ x1 x2 x3 x4 fu v5 v6) → W p l e (rmN 3) s m args below meth c H locs 0 0 (MQ below ((Qi G (Ei (b2i E.1) E.2 τ)) s.heap.size) args s 0 0 (AW G s.heap.size)) (F0 m 71 ls []) := by
  intro fu
  induction fu with
  | zero =>
    intro v5 v6 H locs ls I hl  ho hm hE
    exact absurd hm (Nat.not_lt_zero _)
  | succ fu ih =>
    intro v5 v6 H locs ls I hl  ho hm hE
    unfold o12_isSo_c71 at ho
    refine lv_iload X.1 X.2.1 dX12_isSo_71 (lv_at hl 6 rfl) ?_
    refine lv_aload_n X.1 X.2.1 dX12_isSo_73 rfl (lv_at hl 0 rfl) ?_
    refine g12_48 X I (k := 123) (by decide) rfl lf_X12_276 dX12_isSo_74 ?_
    refine lv_icmp_ge (tgt := 147) X.1 X.2.1 dX12_isSo_77 (by decide) (fun c_4 => ?_) (fun c_4 => ?_)
    · skip
      have hE := ite_t hE c_4
      have ho := ite_tP ho c_4
      refine lv_iload_n X.1 X.2.1 dX12_isSo_147 rfl (lv_at hl 1 rfl) ?_
      refine lv_bipush (v := 9) X.1 X.2.1 dX12_isSo_148 (by decide) ?_
      refine lv_icmp_eq (tgt := 164) X.1 X.2.1 dX12_isSo_150 (by decide) (fun c_5 => ?_) (fun c_5 => ?_)
      · skip
        have hE := ite_t hE c_5
        have ho := ite_tP ho c_5
        refine lv_iload X.1 X.2.1 dX12_isSo_164 (lv_at hl 5 rfl) ?_
        have h9 := hE
        exact r_zret X I (b2i_nar _) (e_i (congrArg b2i (pr_fst h9)) (pr_snd h9) rfl) dX12_isSo_166
      · skip
        have hE := ite_f hE c_5
        have ho := ite_fP ho c_5
        refine lv_aload_n X.1 X.2.1 dX12_isSo_153 rfl (lv_at hl 0 rfl) ?_
        refine g12_23 X I (k := 123) (by decide) rfl lf_X12_52 dX12_isSo_154 ?_
        refine lv_iconst (v := 4) X.1 X.2.1 dX12_isSo_157 (by decide) ?_
        refine lv_iload_n X.1 X.2.1 dX12_isSo_158 rfl (lv_at hl 1 rfl) ?_
        refine lv_imul X.1 X.2.1 dX12_isSo_159 ?_
        refine lv_iconst (v := 2) X.1 X.2.1 dX12_isSo_160 (by decide) ?_
        refine lv_iadd X.1 X.2.1 dX12_isSo_161 ?_
        refine lv_iload_n X.1 X.2.1 dX12_isSo_162 rfl (lv_at hl 3 rfl) ?_
        have ho3 := ho.1
        have ho := ho.2
        refine r_ast X I (k := 138) (n := 28) (by decide) rfl ho3 dX12_isSo_163 (fun H locs I => ?_)
        refine lv_iload X.1 X.2.1 dX12_isSo_164 (lv_at hl 5 rfl) ?_
        have h9 := hE
        exact r_zret X I (b2i_nar _) (e_i (congrArg b2i (pr_fst h9)) (pr_snd h9) rfl) dX12_isSo_166
    · skip
      have hE := ite_f hE c_4
      have ho := ite_fP ho c_4
      refine lv_iload X.1 X.2.1 dX12_isSo_80 (lv_at hl 5 rfl) ?_
      refine lv_if_eq (tgt := 138) X.1 X.2.1 dX12_isSo_82 (by decide) (fun c_6 => ?_) (fun c_6 => ?_)
      · skip
        have hE := ite_f hE (b2i_n c_6)
        have ho := ite_fP ho (b2i_n c_6)
        refine lv_iconst (v := 0) X.1 X.2.1 dX12_isSo_138 (by decide) ?_
        refine lv_istore (lv' := [(5, .int _), (0, .ref _), (1, .int _), (2, .int _), (3, .int _), (4, .int _), (6, .int _)]) X.1 X.2.1 dX12_isSo_139 hl (by decide) rfl (fun ls hl => ?_)
        refine lv_iinc (v := _ + 1) (lv' := [(6, .int _), (5, .int _), (0, .ref _), (1, .int _), (2, .int _), (3, .int _), (4, .int _)]) X.1 X.2.1 dX12_isSo_141 hl (k := 6) rfl rfl (by decide) rfl (fun ls hl => ?_)
        refine lv_goto (tgt := 71) X.1 X.2.1 dX12_isSo_144 (by decide) ?_
        exact ih false _ _ _ _ I (lv_sub hl [2, 3, 4, 5, 6, 1, 0] rfl) ho (Nat.lt_of_lt_of_le (up_dec c_4) (Nat.le_of_lt_succ hm)) (hE.trans (rfl))
      · skip
        have hE := ite_t hE (b2i_y c_6)
        have ho := ite_tP ho (b2i_y c_6)
        refine lv_aload_n X.1 X.2.1 dX12_isSo_85 rfl (lv_at hl 0 rfl) ?_
        refine g12_45 X I (k := 123) (by decide) rfl lf_X12_92 dX12_isSo_86 ?_
        refine lv_iload X.1 X.2.1 dX12_isSo_89 (lv_at hl 6 rfl) ?_
        have ho4 := ho.1
        have ho := ho.2
        refine r_ald X I (k := 149) (n := 10) (by decide) rfl ho4 dX12_isSo_91 ?_
        refine lv_iload X.1 X.2.1 dX12_isSo_92 (lv_at hl 4 rfl) ?_
        refine lv_icmp_ge (tgt := 123) X.1 X.2.1 dX12_isSo_94 (by decide) (fun c_7 => ?_) (fun c_7 => ?_)
        · skip
          have hE := ite_t hE c_7
          have ho := ite_tP ho c_7
          refine lv_iconst (v := 0) X.1 X.2.1 dX12_isSo_123 (by decide) ?_
          refine lv_aload_n X.1 X.2.1 dX12_isSo_124 rfl (lv_at hl 0 rfl) ?_
          refine g12_47 X I (k := 123) (by decide) rfl lf_X12_98 dX12_isSo_125 ?_
          refine lv_iload X.1 X.2.1 dX12_isSo_128 (lv_at hl 6 rfl) ?_
          have ho5 := ho.1
          have ho := ho.2
          refine r_zald X I (k := 151) (by decide) rfl ho5 dX12_isSo_130 ?_
          refine lv_icmp_ne (tgt := 138) X.1 X.2.1 dX12_isSo_131 (by decide) (fun c_8 => ?_) (fun c_8 => ?_)
          · skip
            have hE := ite_f hE c_8
            have ho := ite_fP ho c_8
            refine lv_iconst (v := 0) X.1 X.2.1 dX12_isSo_138 (by decide) ?_
            refine lv_istore (lv' := [(5, .int _), (0, .ref _), (1, .int _), (2, .int _), (3, .int _), (4, .int _), (6, .int _)]) X.1 X.2.1 dX12_isSo_139 hl (by decide) rfl (fun ls hl => ?_)
            refine lv_iinc (v := _ + 1) (lv' := [(6, .int _), (5, .int _), (0, .ref _), (1, .int _), (2, .int _), (3, .int _), (4, .int _)]) X.1 X.2.1 dX12_isSo_141 hl (k := 6) rfl rfl (by decide) rfl (fun ls hl => ?_)
            refine lv_goto (tgt := 71) X.1 X.2.1 dX12_isSo_144 (by decide) ?_
            exact ih false _ _ _ _ I (lv_sub hl [2, 3, 4, 5, 6, 1, 0] rfl) ho (Nat.lt_of_lt_of_le (up_dec c_4) (Nat.le_of_lt_succ hm)) (hE.trans (rfl))
          · skip
            have hE := ite_t hE c_8
            have ho := ite_tP ho c_8
            refine lv_iconst (v := 1) X.1 X.2.1 dX12_isSo_134 (by decide) ?_
            refine lv_goto (tgt := 139) X.1 X.2.1 dX12_isSo_135 (by decide) ?_
            refine lv_istore (lv' := [(5, .int _), (0, .ref _), (1, .int _), (2, .int _), (3, .int _), (4, .int _), (6, .int _)]) X.1 X.2.1 dX12_isSo_139 hl (by decide) rfl (fun ls hl => ?_)
            refine lv_iinc (v := _ + 1) (lv' := [(6, .int _), (5, .int _), (0, .ref _), (1, .int _), (2, .int _), (3, .int _), (4, .int _)]) X.1 X.2.1 dX12_isSo_141 hl (k := 6) rfl rfl (by decide) rfl (fun ls hl => ?_)
            refine lv_goto (tgt := 71) X.1 X.2.1 dX12_isSo_144 (by decide) ?_
            exact ih true _ _ _ _ I (lv_sub hl [2, 3, 4, 5, 6, 1, 0] rfl) ho (Nat.lt_of_lt_of_le (up_dec c_4) (Nat.le_of_lt_succ hm)) (hE.trans (rfl))
        · skip
          have hE := ite_f hE c_7
          have ho := ite_fP ho c_7
          refine lv_aload_n X.1 X.2.1 dX12_isSo_97 rfl (lv_at hl 0 rfl) ?_
          refine g12_39 X I (k := 123) (by decide) rfl lf_X12_77 dX12_isSo_98 ?_
          refine lv_aload_n X.1 X.2.1 dX12_isSo_101 rfl (lv_at hl 0 rfl) ?_
          refine g12_45 X I (k := 123) (by decide) rfl lf_X12_92 dX12_isSo_102 ?_
          refine lv_iload X.1 X.2.1 dX12_isSo_105 (lv_at hl 6 rfl) ?_
          have ho6 := ho.1
          have ho := ho.2
          refine r_ald X I (k := 149) (n := 10) (by decide) rfl ho6 dX12_isSo_107 ?_
          have ho7 := ho.1
          have ho := ho.2
          refine r_ald X I (k := 144) (n := 7) (by decide) rfl ho7 dX12_isSo_108 ?_
          refine lv_aload_n X.1 X.2.1 dX12_isSo_109 rfl (lv_at hl 0 rfl) ?_
          refine g12_46 X I (k := 123) (by decide) rfl lf_X12_95 dX12_isSo_110 ?_
          refine lv_iload X.1 X.2.1 dX12_isSo_113 (lv_at hl 6 rfl) ?_
          have ho8 := ho.1
          have ho := ho.2
          refine r_ald X I (k := 150) (n := 10) (by decide) rfl ho8 dX12_isSo_115 ?_
          refine lv_icmp_ne (tgt := 123) X.1 X.2.1 dX12_isSo_116 (by decide) (fun c_9 => ?_) (fun c_9 => ?_)
          · skip
            have hE := ite_f hE c_9
            have ho := ite_fP ho c_9
            refine lv_iconst (v := 0) X.1 X.2.1 dX12_isSo_123 (by decide) ?_
            refine lv_aload_n X.1 X.2.1 dX12_isSo_124 rfl (lv_at hl 0 rfl) ?_
            refine g12_47 X I (k := 123) (by decide) rfl lf_X12_98 dX12_isSo_125 ?_
            refine lv_iload X.1 X.2.1 dX12_isSo_128 (lv_at hl 6 rfl) ?_
            have ho9 := ho.1
            have ho := ho.2
            refine r_zald X I (k := 151) (by decide) rfl ho9 dX12_isSo_130 ?_
            refine lv_icmp_ne (tgt := 138) X.1 X.2.1 dX12_isSo_131 (by decide) (fun c_10 => ?_) (fun c_10 => ?_)
            · skip
              have hE := ite_f hE c_10
              have ho := ite_fP ho c_10
              refine lv_iconst (v := 0) X.1 X.2.1 dX12_isSo_138 (by decide) ?_
              refine lv_istore (lv' := [(5, .int _), (0, .ref _), (1, .int _), (2, .int _), (3, .int _), (4, .int _), (6, .int _)]) X.1 X.2.1 dX12_isSo_139 hl (by decide) rfl (fun ls hl => ?_)
              refine lv_iinc (v := _ + 1) (lv' := [(6, .int _), (5, .int _), (0, .ref _), (1, .int _), (2, .int _), (3, .int _), (4, .int _)]) X.1 X.2.1 dX12_isSo_141 hl (k := 6) rfl rfl (by decide) rfl (fun ls hl => ?_)
              refine lv_goto (tgt := 71) X.1 X.2.1 dX12_isSo_144 (by decide) ?_
              exact ih false _ _ _ _ I (lv_sub hl [2, 3, 4, 5, 6, 1, 0] rfl) ho (Nat.lt_of_lt_of_le (up_dec c_4) (Nat.le_of_lt_succ hm)) (hE.trans (rfl))
            · skip
              have hE := ite_t hE c_10
              have ho := ite_tP ho c_10
              refine lv_iconst (v := 1) X.1 X.2.1 dX12_isSo_134 (by decide) ?_
              refine lv_goto (tgt := 139) X.1 X.2.1 dX12_isSo_135 (by decide) ?_
              refine lv_istore (lv' := [(5, .int _), (0, .ref _), (1, .int _), (2, .int _), (3, .int _), (4, .int _), (6, .int _)]) X.1 X.2.1 dX12_isSo_139 hl (by decide) rfl (fun ls hl => ?_)
              refine lv_iinc (v := _ + 1) (lv' := [(6, .int _), (5, .int _), (0, .ref _), (1, .int _), (2, .int _), (3, .int _), (4, .int _)]) X.1 X.2.1 dX12_isSo_141 hl (k := 6) rfl rfl (by decide) rfl (fun ls hl => ?_)
              refine lv_goto (tgt := 71) X.1 X.2.1 dX12_isSo_144 (by decide) ?_
              exact ih true _ _ _ _ I (lv_sub hl [2, 3, 4, 5, 6, 1, 0] rfl) ho (Nat.lt_of_lt_of_le (up_dec c_4) (Nat.le_of_lt_succ hm)) (hE.trans (rfl))
          · skip
            have hE := ite_t hE c_9
            have ho := ite_tP ho c_9
            refine lv_iconst (v := 1) X.1 X.2.1 dX12_isSo_119 (by decide) ?_
            refine lv_goto (tgt := 124) X.1 X.2.1 dX12_isSo_120 (by decide) ?_
            refine lv_aload_n X.1 X.2.1 dX12_isSo_124 rfl (lv_at hl 0 rfl) ?_
            refine g12_47 X I (k := 123) (by decide) rfl lf_X12_98 dX12_isSo_125 ?_
            refine lv_iload X.1 X.2.1 dX12_isSo_128 (lv_at hl 6 rfl) ?_
            have ho10 := ho.1
            have ho := ho.2
            refine r_zald X I (k := 151) (by decide) rfl ho10 dX12_isSo_130 ?_
            refine lv_icmp_ne (tgt := 138) X.1 X.2.1 dX12_isSo_131 (by decide) (fun c_11 => ?_) (fun c_11 => ?_)
            · skip
              have hE := ite_f hE c_11
              have ho := ite_fP ho c_11
              refine lv_iconst (v := 0) X.1 X.2.1 dX12_isSo_138 (by decide) ?_
              refine lv_istore (lv' := [(5, .int _), (0, .ref _), (1, .int _), (2, .int _), (3, .int _), (4, .int _), (6, .int _)]) X.1 X.2.1 dX12_isSo_139 hl (by decide) rfl (fun ls hl => ?_)
              refine lv_iinc (v := _ + 1) (lv' := [(6, .int _), (5, .int _), (0, .ref _), (1, .int _), (2, .int _), (3, .int _), (4, .int _)]) X.1 X.2.1 dX12_isSo_141 hl (k := 6) rfl rfl (by decide) rfl (fun ls hl => ?_)
              refine lv_goto (tgt := 71) X.1 X.2.1 dX12_isSo_144 (by decide) ?_
              exact ih false _ _ _ _ I (lv_sub hl [2, 3, 4, 5, 6, 1, 0] rfl) ho (Nat.lt_of_lt_of_le (up_dec c_4) (Nat.le_of_lt_succ hm)) (hE.trans (rfl))
            · skip
              have hE := ite_t hE c_11
              have ho := ite_tP ho c_11
              refine lv_iconst (v := 1) X.1 X.2.1 dX12_isSo_134 (by decide) ?_
              refine lv_goto (tgt := 139) X.1 X.2.1 dX12_isSo_135 (by decide) ?_
              refine lv_istore (lv' := [(5, .int _), (0, .ref _), (1, .int _), (2, .int _), (3, .int _), (4, .int _), (6, .int _)]) X.1 X.2.1 dX12_isSo_139 hl (by decide) rfl (fun ls hl => ?_)
              refine lv_iinc (v := _ + 1) (lv' := [(6, .int _), (5, .int _), (0, .ref _), (1, .int _), (2, .int _), (3, .int _), (4, .int _)]) X.1 X.2.1 dX12_isSo_141 hl (k := 6) rfl rfl (by decide) rfl (fun ls hl => ?_)
              refine lv_goto (tgt := 71) X.1 X.2.1 dX12_isSo_144 (by decide) ?_
              exact ih true _ _ _ _ I (lv_sub hl [2, 3, 4, 5, 6, 1, 0] rfl) ho (Nat.lt_of_lt_of_le (up_dec c_4) (Nat.le_of_lt_succ hm)) (hE.trans (rfl))
set_option maxHeartbeats 4000000 in
set_option maxRecDepth 100000 in
theorem c12_isSo (l : Launch) (G : GT) (σ : SI) (τ : SL) (x1 : Int32) (x2 : Int32) (ho : o12_isSo σ x1 x2) : Mc l yX12_isSo cX12_isSo 7 (some .boolean) 3 G [.ref (G.2.1 123), .int x1, .int x2] σ τ (Qi G (Ei (b2i (f12_isSo σ x1 x2).1) (f12_isSo σ x1 x2).2 τ)) := by
  refine m_start (by decide +kernel) (Nat.le_of_ble_eq_true rfl) rfl (fun p e s m args below meth c ls X I hl => ?_)
  have hl : lv_has ls 7 [(0, .ref (G.2.1 123)), (1, .int x1), (2, .int x2)] := hl
  obtain ⟨E, hE⟩ : ∃ E, E = (f12_isSo σ x1 x2) := ⟨_, rfl⟩
  rw [← hE]
  unfold o12_isSo at ho
  refine lv_iload_n X.1 X.2.1 dX12_isSo_0 rfl (lv_at hl 1 rfl) ?_
  refine lv_bipush (v := 9) X.1 X.2.1 dX12_isSo_1 (by decide) ?_
  refine lv_icmp_eq (tgt := 16) X.1 X.2.1 dX12_isSo_3 (by decide) (fun c_1 => ?_) (fun c_1 => ?_)
  · skip
    have hE := ite_t hE c_1
    have ho := ite_tP ho c_1
    refine lv_iload_n X.1 X.2.1 dX12_isSo_16 rfl (lv_at hl 1 rfl) ?_
    refine lv_bipush (v := 9) X.1 X.2.1 dX12_isSo_17 (by decide) ?_
    refine lv_icmp_ne (tgt := 26) X.1 X.2.1 dX12_isSo_19 (by decide) (fun c_2 => ?_) (fun c_2 => ?_)
    · skip
      have hE := ite_f hE c_2
      have ho := ite_fP ho c_2
      refine lv_aload_n X.1 X.2.1 dX12_isSo_26 rfl (lv_at hl 0 rfl) ?_
      refine lv_iload_n X.1 X.2.1 dX12_isSo_27 rfl (lv_at hl 1 rfl) ?_
      refine lv_iconst (v := 2) X.1 X.2.1 dX12_isSo_28 (by decide) ?_
      have ho1 := ho.1
      have ho := ho.2
      refine r_ei I (r_runV X I pk_X12_of (c12_of l G _ _ _ _ ho1) lm_X12_270 (by decide) (cl_12 rfl) rfl rfl rfl hl.1 rfl (Nat.le_of_ble_eq_true rfl) dX12_isSo_29 ⟨Nat.le_of_ble_eq_true rfl, Nat.le_of_ble_eq_true rfl⟩ ⟨Nat.le_refl 0, Nat.le_refl 0⟩) (fun H locs I => ?_)
      refine lv_istore_n (lv' := [(3, .int _), (0, .ref _), (1, .int _), (2, .int _)]) X.1 X.2.1 dX12_isSo_32 rfl hl (by decide) rfl (fun ls hl => ?_)
      refine lv_iload_n X.1 X.2.1 dX12_isSo_33 rfl (lv_at hl 2 rfl) ?_
      refine lv_bipush (v := 9) X.1 X.2.1 dX12_isSo_34 (by decide) ?_
      refine lv_icmp_eq (tgt := 57) X.1 X.2.1 dX12_isSo_36 (by decide) (fun c_3 => ?_) (fun c_3 => ?_)
      · skip
        have hE := ite_t hE c_3
        have ho := ite_tP ho c_3
        refine lv_aload_n X.1 X.2.1 dX12_isSo_57 rfl (lv_at hl 1 rfl) ?_
        refine lv_iconst (v := 1) X.1 X.2.1 dX12_isSo_58 (by decide) ?_
        refine lv_iconst (v := 0) X.1 X.2.1 dX12_isSo_59 (by decide) ?_
        have ho2 := ho.1
        have ho := ho.2
        refine r_ei I (r_runV X I pk_X12_layOrder (c12_layOrder l G _ _ true _ ho2) lm_X12_399 (by decide) (cl_12 rfl) rfl rfl rfl hl.1 rfl (Nat.le_of_ble_eq_true rfl) dX12_isSo_60 ⟨Nat.le_of_ble_eq_true rfl, Nat.le_of_ble_eq_true rfl⟩ ⟨Nat.le_refl 0, Nat.le_refl 0⟩) (fun H locs I => ?_)
        refine lv_istore (lv' := [(4, .int _), (3, .int _), (0, .ref _), (1, .int _), (2, .int _)]) X.1 X.2.1 dX12_isSo_63 hl (by decide) rfl (fun ls hl => ?_)
        refine lv_iconst (v := 1) X.1 X.2.1 dX12_isSo_65 (by decide) ?_
        refine lv_istore (lv' := [(5, .int _), (4, .int _), (3, .int _), (0, .ref _), (1, .int _), (2, .int _)]) X.1 X.2.1 dX12_isSo_66 hl (by decide) rfl (fun ls hl => ?_)
        refine lv_iconst (v := 0) X.1 X.2.1 dX12_isSo_68 (by decide) ?_
        refine lv_istore (lv' := [(6, .int _), (5, .int _), (4, .int _), (3, .int _), (0, .ref _), (1, .int _), (2, .int _)]) X.1 X.2.1 dX12_isSo_69 hl (by decide) rfl (fun ls hl => ?_)
        exact c12_isSo_c71 X _ _ _ _ _ _ _ true _ _ _ _ I (lv_sub hl [4, 5, 6, 3, 2, 1, 0] rfl) ho (fu1_lt _) (hE.trans (rfl))
      · skip
        have hE := ite_f hE c_3
        have ho := ite_fP ho c_3
        refine lv_aload_n X.1 X.2.1 dX12_isSo_39 rfl (lv_at hl 1 rfl) ?_
        refine g12_23 X I (k := 123) (by decide) rfl lf_X12_52 dX12_isSo_40 ?_
        refine lv_iconst (v := 4) X.1 X.2.1 dX12_isSo_43 (by decide) ?_
        refine lv_iload_n X.1 X.2.1 dX12_isSo_44 rfl (lv_at hl 2 rfl) ?_
        refine lv_imul X.1 X.2.1 dX12_isSo_45 ?_
        refine lv_iconst (v := 2) X.1 X.2.1 dX12_isSo_46 (by decide) ?_
        refine lv_iadd X.1 X.2.1 dX12_isSo_47 ?_
        refine lv_bipush (v := 30) X.1 X.2.1 dX12_isSo_48 (by decide) ?_
        refine lv_iload_n X.1 X.2.1 dX12_isSo_50 rfl (lv_at hl 0 rfl) ?_
        refine lv_iload_n X.1 X.2.1 dX12_isSo_51 rfl (lv_at hl 3 rfl) ?_
        refine lv_iadd X.1 X.2.1 dX12_isSo_52 ?_
        refine r_mmin X hl.1 lm_X12_301 ls_J9_min_7cf53 ln_J9 lc_J9_min_7cf53 (Nat.le_of_ble_eq_true rfl) (Nat.le_of_ble_eq_true rfl) (Nat.le_refl 0) (Nat.le_refl 0) dX12_isSo_53 ?_
        have ho11 := ho.1
        have ho := ho.2
        refine r_ast X I (k := 138) (n := 28) (by decide) rfl ho11 dX12_isSo_56 (fun H locs I => ?_)
        refine lv_aload_n X.1 X.2.1 dX12_isSo_57 rfl (lv_at hl 1 rfl) ?_
        refine lv_iconst (v := 1) X.1 X.2.1 dX12_isSo_58 (by decide) ?_
        refine lv_iconst (v := 0) X.1 X.2.1 dX12_isSo_59 (by decide) ?_
        have ho12 := ho.1
        have ho := ho.2
        refine r_ei I (r_runV X I pk_X12_layOrder (c12_layOrder l G _ _ true _ ho12) lm_X12_399 (by decide) (cl_12 rfl) rfl rfl rfl hl.1 rfl (Nat.le_of_ble_eq_true rfl) dX12_isSo_60 ⟨Nat.le_of_ble_eq_true rfl, Nat.le_of_ble_eq_true rfl⟩ ⟨Nat.le_refl 0, Nat.le_refl 0⟩) (fun H locs I => ?_)
        refine lv_istore (lv' := [(4, .int _), (3, .int _), (0, .ref _), (1, .int _), (2, .int _)]) X.1 X.2.1 dX12_isSo_63 hl (by decide) rfl (fun ls hl => ?_)
        refine lv_iconst (v := 1) X.1 X.2.1 dX12_isSo_65 (by decide) ?_
        refine lv_istore (lv' := [(5, .int _), (4, .int _), (3, .int _), (0, .ref _), (1, .int _), (2, .int _)]) X.1 X.2.1 dX12_isSo_66 hl (by decide) rfl (fun ls hl => ?_)
        refine lv_iconst (v := 0) X.1 X.2.1 dX12_isSo_68 (by decide) ?_
        refine lv_istore (lv' := [(6, .int _), (5, .int _), (4, .int _), (3, .int _), (0, .ref _), (1, .int _), (2, .int _)]) X.1 X.2.1 dX12_isSo_69 hl (by decide) rfl (fun ls hl => ?_)
        exact c12_isSo_c71 X _ _ _ _ _ _ _ true _ _ _ _ I (lv_sub hl [4, 5, 6, 3, 2, 1, 0] rfl) ho (fu1_lt _) (hE.trans (rfl))
    · skip
      have hE := ite_t hE c_2
      have ho := ite_tP ho c_2
      refine lv_iconst (v := 0) X.1 X.2.1 dX12_isSo_22 (by decide) ?_
      refine lv_goto (tgt := 32) X.1 X.2.1 dX12_isSo_23 (by decide) ?_
      refine lv_istore_n (lv' := [(3, .int _), (0, .ref _), (1, .int _), (2, .int _)]) X.1 X.2.1 dX12_isSo_32 rfl hl (by decide) rfl (fun ls hl => ?_)
      refine lv_iload_n X.1 X.2.1 dX12_isSo_33 rfl (lv_at hl 2 rfl) ?_
      refine lv_bipush (v := 9) X.1 X.2.1 dX12_isSo_34 (by decide) ?_
      refine lv_icmp_eq (tgt := 57) X.1 X.2.1 dX12_isSo_36 (by decide) (fun c_12 => ?_) (fun c_12 => ?_)
      · skip
        have hE := ite_t hE c_12
        have ho := ite_tP ho c_12
        refine lv_aload_n X.1 X.2.1 dX12_isSo_57 rfl (lv_at hl 1 rfl) ?_
        refine lv_iconst (v := 1) X.1 X.2.1 dX12_isSo_58 (by decide) ?_
        refine lv_iconst (v := 0) X.1 X.2.1 dX12_isSo_59 (by decide) ?_
        have ho13 := ho.1
        have ho := ho.2
        refine r_ei I (r_runV X I pk_X12_layOrder (c12_layOrder l G _ _ true _ ho13) lm_X12_399 (by decide) (cl_12 rfl) rfl rfl rfl hl.1 rfl (Nat.le_of_ble_eq_true rfl) dX12_isSo_60 ⟨Nat.le_of_ble_eq_true rfl, Nat.le_of_ble_eq_true rfl⟩ ⟨Nat.le_refl 0, Nat.le_refl 0⟩) (fun H locs I => ?_)
        refine lv_istore (lv' := [(4, .int _), (3, .int _), (0, .ref _), (1, .int _), (2, .int _)]) X.1 X.2.1 dX12_isSo_63 hl (by decide) rfl (fun ls hl => ?_)
        refine lv_iconst (v := 1) X.1 X.2.1 dX12_isSo_65 (by decide) ?_
        refine lv_istore (lv' := [(5, .int _), (4, .int _), (3, .int _), (0, .ref _), (1, .int _), (2, .int _)]) X.1 X.2.1 dX12_isSo_66 hl (by decide) rfl (fun ls hl => ?_)
        refine lv_iconst (v := 0) X.1 X.2.1 dX12_isSo_68 (by decide) ?_
        refine lv_istore (lv' := [(6, .int _), (5, .int _), (4, .int _), (3, .int _), (0, .ref _), (1, .int _), (2, .int _)]) X.1 X.2.1 dX12_isSo_69 hl (by decide) rfl (fun ls hl => ?_)
        exact c12_isSo_c71 X _ _ _ _ _ _ _ true _ _ _ _ I (lv_sub hl [4, 5, 6, 3, 2, 1, 0] rfl) ho (fu1_lt _) (hE.trans (rfl))
      · skip
        have hE := ite_f hE c_12
        have ho := ite_fP ho c_12
        refine lv_aload_n X.1 X.2.1 dX12_isSo_39 rfl (lv_at hl 1 rfl) ?_
        refine g12_23 X I (k := 123) (by decide) rfl lf_X12_52 dX12_isSo_40 ?_
        refine lv_iconst (v := 4) X.1 X.2.1 dX12_isSo_43 (by decide) ?_
        refine lv_iload_n X.1 X.2.1 dX12_isSo_44 rfl (lv_at hl 2 rfl) ?_
        refine lv_imul X.1 X.2.1 dX12_isSo_45 ?_
        refine lv_iconst (v := 2) X.1 X.2.1 dX12_isSo_46 (by decide) ?_
        refine lv_iadd X.1 X.2.1 dX12_isSo_47 ?_
        refine lv_bipush (v := 30) X.1 X.2.1 dX12_isSo_48 (by decide) ?_
        refine lv_iload_n X.1 X.2.1 dX12_isSo_50 rfl (lv_at hl 0 rfl) ?_
        refine lv_iload_n X.1 X.2.1 dX12_isSo_51 rfl (lv_at hl 3 rfl) ?_
        refine lv_iadd X.1 X.2.1 dX12_isSo_52 ?_
        refine r_mmin X hl.1 lm_X12_301 ls_J9_min_7cf53 ln_J9 lc_J9_min_7cf53 (Nat.le_of_ble_eq_true rfl) (Nat.le_of_ble_eq_true rfl) (Nat.le_refl 0) (Nat.le_refl 0) dX12_isSo_53 ?_
        have ho14 := ho.1
        have ho := ho.2
        refine r_ast X I (k := 138) (n := 28) (by decide) rfl ho14 dX12_isSo_56 (fun H locs I => ?_)
        refine lv_aload_n X.1 X.2.1 dX12_isSo_57 rfl (lv_at hl 1 rfl) ?_
        refine lv_iconst (v := 1) X.1 X.2.1 dX12_isSo_58 (by decide) ?_
        refine lv_iconst (v := 0) X.1 X.2.1 dX12_isSo_59 (by decide) ?_
        have ho15 := ho.1
        have ho := ho.2
        refine r_ei I (r_runV X I pk_X12_layOrder (c12_layOrder l G _ _ true _ ho15) lm_X12_399 (by decide) (cl_12 rfl) rfl rfl rfl hl.1 rfl (Nat.le_of_ble_eq_true rfl) dX12_isSo_60 ⟨Nat.le_of_ble_eq_true rfl, Nat.le_of_ble_eq_true rfl⟩ ⟨Nat.le_refl 0, Nat.le_refl 0⟩) (fun H locs I => ?_)
        refine lv_istore (lv' := [(4, .int _), (3, .int _), (0, .ref _), (1, .int _), (2, .int _)]) X.1 X.2.1 dX12_isSo_63 hl (by decide) rfl (fun ls hl => ?_)
        refine lv_iconst (v := 1) X.1 X.2.1 dX12_isSo_65 (by decide) ?_
        refine lv_istore (lv' := [(5, .int _), (4, .int _), (3, .int _), (0, .ref _), (1, .int _), (2, .int _)]) X.1 X.2.1 dX12_isSo_66 hl (by decide) rfl (fun ls hl => ?_)
        refine lv_iconst (v := 0) X.1 X.2.1 dX12_isSo_68 (by decide) ?_
        refine lv_istore (lv' := [(6, .int _), (5, .int _), (4, .int _), (3, .int _), (0, .ref _), (1, .int _), (2, .int _)]) X.1 X.2.1 dX12_isSo_69 hl (by decide) rfl (fun ls hl => ?_)
        exact c12_isSo_c71 X _ _ _ _ _ _ _ true _ _ _ _ I (lv_sub hl [4, 5, 6, 3, 2, 1, 0] rfl) ho (fu1_lt _) (hE.trans (rfl))
  · skip
    have hE := ite_f hE c_1
    have ho := ite_fP ho c_1
    refine lv_aload_n X.1 X.2.1 dX12_isSo_6 rfl (lv_at hl 0 rfl) ?_
    refine lv_iload_n X.1 X.2.1 dX12_isSo_7 rfl (lv_at hl 1 rfl) ?_
    refine r_ei I (r_runV X I pk_X12_isHouse (c12_isHouse l G _ _ _) lm_X12_332 (by decide) (cl_12 rfl) rfl rfl rfl hl.1 rfl (Nat.le_of_ble_eq_true rfl) dX12_isSo_8 ⟨Nat.le_of_ble_eq_true rfl, Nat.le_of_ble_eq_true rfl⟩ ⟨Nat.le_refl 0, Nat.le_refl 0⟩) (fun H locs I => ?_)
    refine lv_if_ne (tgt := 16) X.1 X.2.1 dX12_isSo_11 (by decide) (fun c_13 => ?_) (fun c_13 => ?_)
    · skip
      have hE := ite_t hE (b2i_y c_13)
      have ho := ite_tP ho (b2i_y c_13)
      refine lv_iload_n X.1 X.2.1 dX12_isSo_16 rfl (lv_at hl 1 rfl) ?_
      refine lv_bipush (v := 9) X.1 X.2.1 dX12_isSo_17 (by decide) ?_
      refine lv_icmp_ne (tgt := 26) X.1 X.2.1 dX12_isSo_19 (by decide) (fun c_14 => ?_) (fun c_14 => ?_)
      · skip
        have hE := ite_f hE c_14
        have ho := ite_fP ho c_14
        refine lv_aload_n X.1 X.2.1 dX12_isSo_26 rfl (lv_at hl 0 rfl) ?_
        refine lv_iload_n X.1 X.2.1 dX12_isSo_27 rfl (lv_at hl 1 rfl) ?_
        refine lv_iconst (v := 2) X.1 X.2.1 dX12_isSo_28 (by decide) ?_
        have ho16 := ho.1
        have ho := ho.2
        refine r_ei I (r_runV X I pk_X12_of (c12_of l G _ _ _ _ ho16) lm_X12_270 (by decide) (cl_12 rfl) rfl rfl rfl hl.1 rfl (Nat.le_of_ble_eq_true rfl) dX12_isSo_29 ⟨Nat.le_of_ble_eq_true rfl, Nat.le_of_ble_eq_true rfl⟩ ⟨Nat.le_refl 0, Nat.le_refl 0⟩) (fun H locs I => ?_)
        refine lv_istore_n (lv' := [(3, .int _), (0, .ref _), (1, .int _), (2, .int _)]) X.1 X.2.1 dX12_isSo_32 rfl hl (by decide) rfl (fun ls hl => ?_)
        refine lv_iload_n X.1 X.2.1 dX12_isSo_33 rfl (lv_at hl 2 rfl) ?_
        refine lv_bipush (v := 9) X.1 X.2.1 dX12_isSo_34 (by decide) ?_
        refine lv_icmp_eq (tgt := 57) X.1 X.2.1 dX12_isSo_36 (by decide) (fun c_15 => ?_) (fun c_15 => ?_)
        · skip
          have hE := ite_t hE c_15
          have ho := ite_tP ho c_15
          refine lv_aload_n X.1 X.2.1 dX12_isSo_57 rfl (lv_at hl 1 rfl) ?_
          refine lv_iconst (v := 1) X.1 X.2.1 dX12_isSo_58 (by decide) ?_
          refine lv_iconst (v := 0) X.1 X.2.1 dX12_isSo_59 (by decide) ?_
          have ho17 := ho.1
          have ho := ho.2
          refine r_ei I (r_runV X I pk_X12_layOrder (c12_layOrder l G _ _ true _ ho17) lm_X12_399 (by decide) (cl_12 rfl) rfl rfl rfl hl.1 rfl (Nat.le_of_ble_eq_true rfl) dX12_isSo_60 ⟨Nat.le_of_ble_eq_true rfl, Nat.le_of_ble_eq_true rfl⟩ ⟨Nat.le_refl 0, Nat.le_refl 0⟩) (fun H locs I => ?_)
          refine lv_istore (lv' := [(4, .int _), (3, .int _), (0, .ref _), (1, .int _), (2, .int _)]) X.1 X.2.1 dX12_isSo_63 hl (by decide) rfl (fun ls hl => ?_)
          refine lv_iconst (v := 1) X.1 X.2.1 dX12_isSo_65 (by decide) ?_
          refine lv_istore (lv' := [(5, .int _), (4, .int _), (3, .int _), (0, .ref _), (1, .int _), (2, .int _)]) X.1 X.2.1 dX12_isSo_66 hl (by decide) rfl (fun ls hl => ?_)
          refine lv_iconst (v := 0) X.1 X.2.1 dX12_isSo_68 (by decide) ?_
          refine lv_istore (lv' := [(6, .int _), (5, .int _), (4, .int _), (3, .int _), (0, .ref _), (1, .int _), (2, .int _)]) X.1 X.2.1 dX12_isSo_69 hl (by decide) rfl (fun ls hl => ?_)
          exact c12_isSo_c71 X _ _ _ _ _ _ _ true _ _ _ _ I (lv_sub hl [4, 5, 6, 3, 2, 1, 0] rfl) ho (fu1_lt _) (hE.trans (rfl))
        · skip
          have hE := ite_f hE c_15
          have ho := ite_fP ho c_15
          refine lv_aload_n X.1 X.2.1 dX12_isSo_39 rfl (lv_at hl 1 rfl) ?_
          refine g12_23 X I (k := 123) (by decide) rfl lf_X12_52 dX12_isSo_40 ?_
          refine lv_iconst (v := 4) X.1 X.2.1 dX12_isSo_43 (by decide) ?_
          refine lv_iload_n X.1 X.2.1 dX12_isSo_44 rfl (lv_at hl 2 rfl) ?_
          refine lv_imul X.1 X.2.1 dX12_isSo_45 ?_
          refine lv_iconst (v := 2) X.1 X.2.1 dX12_isSo_46 (by decide) ?_
          refine lv_iadd X.1 X.2.1 dX12_isSo_47 ?_
          refine lv_bipush (v := 30) X.1 X.2.1 dX12_isSo_48 (by decide) ?_
          refine lv_iload_n X.1 X.2.1 dX12_isSo_50 rfl (lv_at hl 0 rfl) ?_
          refine lv_iload_n X.1 X.2.1 dX12_isSo_51 rfl (lv_at hl 3 rfl) ?_
          refine lv_iadd X.1 X.2.1 dX12_isSo_52 ?_
          refine r_mmin X hl.1 lm_X12_301 ls_J9_min_7cf53 ln_J9 lc_J9_min_7cf53 (Nat.le_of_ble_eq_true rfl) (Nat.le_of_ble_eq_true rfl) (Nat.le_refl 0) (Nat.le_refl 0) dX12_isSo_53 ?_
          have ho18 := ho.1
          have ho := ho.2
          refine r_ast X I (k := 138) (n := 28) (by decide) rfl ho18 dX12_isSo_56 (fun H locs I => ?_)
          refine lv_aload_n X.1 X.2.1 dX12_isSo_57 rfl (lv_at hl 1 rfl) ?_
          refine lv_iconst (v := 1) X.1 X.2.1 dX12_isSo_58 (by decide) ?_
          refine lv_iconst (v := 0) X.1 X.2.1 dX12_isSo_59 (by decide) ?_
          have ho19 := ho.1
          have ho := ho.2
          refine r_ei I (r_runV X I pk_X12_layOrder (c12_layOrder l G _ _ true _ ho19) lm_X12_399 (by decide) (cl_12 rfl) rfl rfl rfl hl.1 rfl (Nat.le_of_ble_eq_true rfl) dX12_isSo_60 ⟨Nat.le_of_ble_eq_true rfl, Nat.le_of_ble_eq_true rfl⟩ ⟨Nat.le_refl 0, Nat.le_refl 0⟩) (fun H locs I => ?_)
          refine lv_istore (lv' := [(4, .int _), (3, .int _), (0, .ref _), (1, .int _), (2, .int _)]) X.1 X.2.1 dX12_isSo_63 hl (by decide) rfl (fun ls hl => ?_)
          refine lv_iconst (v := 1) X.1 X.2.1 dX12_isSo_65 (by decide) ?_
          refine lv_istore (lv' := [(5, .int _), (4, .int _), (3, .int _), (0, .ref _), (1, .int _), (2, .int _)]) X.1 X.2.1 dX12_isSo_66 hl (by decide) rfl (fun ls hl => ?_)
          refine lv_iconst (v := 0) X.1 X.2.1 dX12_isSo_68 (by decide) ?_
          refine lv_istore (lv' := [(6, .int _), (5, .int _), (4, .int _), (3, .int _), (0, .ref _), (1, .int _), (2, .int _)]) X.1 X.2.1 dX12_isSo_69 hl (by decide) rfl (fun ls hl => ?_)
          exact c12_isSo_c71 X _ _ _ _ _ _ _ true _ _ _ _ I (lv_sub hl [4, 5, 6, 3, 2, 1, 0] rfl) ho (fu1_lt _) (hE.trans (rfl))
      · skip
        have hE := ite_t hE c_14
        have ho := ite_tP ho c_14
        refine lv_iconst (v := 0) X.1 X.2.1 dX12_isSo_22 (by decide) ?_
        refine lv_goto (tgt := 32) X.1 X.2.1 dX12_isSo_23 (by decide) ?_
        refine lv_istore_n (lv' := [(3, .int _), (0, .ref _), (1, .int _), (2, .int _)]) X.1 X.2.1 dX12_isSo_32 rfl hl (by decide) rfl (fun ls hl => ?_)
        refine lv_iload_n X.1 X.2.1 dX12_isSo_33 rfl (lv_at hl 2 rfl) ?_
        refine lv_bipush (v := 9) X.1 X.2.1 dX12_isSo_34 (by decide) ?_
        refine lv_icmp_eq (tgt := 57) X.1 X.2.1 dX12_isSo_36 (by decide) (fun c_16 => ?_) (fun c_16 => ?_)
        · skip
          have hE := ite_t hE c_16
          have ho := ite_tP ho c_16
          refine lv_aload_n X.1 X.2.1 dX12_isSo_57 rfl (lv_at hl 1 rfl) ?_
          refine lv_iconst (v := 1) X.1 X.2.1 dX12_isSo_58 (by decide) ?_
          refine lv_iconst (v := 0) X.1 X.2.1 dX12_isSo_59 (by decide) ?_
          have ho20 := ho.1
          have ho := ho.2
          refine r_ei I (r_runV X I pk_X12_layOrder (c12_layOrder l G _ _ true _ ho20) lm_X12_399 (by decide) (cl_12 rfl) rfl rfl rfl hl.1 rfl (Nat.le_of_ble_eq_true rfl) dX12_isSo_60 ⟨Nat.le_of_ble_eq_true rfl, Nat.le_of_ble_eq_true rfl⟩ ⟨Nat.le_refl 0, Nat.le_refl 0⟩) (fun H locs I => ?_)
          refine lv_istore (lv' := [(4, .int _), (3, .int _), (0, .ref _), (1, .int _), (2, .int _)]) X.1 X.2.1 dX12_isSo_63 hl (by decide) rfl (fun ls hl => ?_)
          refine lv_iconst (v := 1) X.1 X.2.1 dX12_isSo_65 (by decide) ?_
          refine lv_istore (lv' := [(5, .int _), (4, .int _), (3, .int _), (0, .ref _), (1, .int _), (2, .int _)]) X.1 X.2.1 dX12_isSo_66 hl (by decide) rfl (fun ls hl => ?_)
          refine lv_iconst (v := 0) X.1 X.2.1 dX12_isSo_68 (by decide) ?_
          refine lv_istore (lv' := [(6, .int _), (5, .int _), (4, .int _), (3, .int _), (0, .ref _), (1, .int _), (2, .int _)]) X.1 X.2.1 dX12_isSo_69 hl (by decide) rfl (fun ls hl => ?_)
          exact c12_isSo_c71 X _ _ _ _ _ _ _ true _ _ _ _ I (lv_sub hl [4, 5, 6, 3, 2, 1, 0] rfl) ho (fu1_lt _) (hE.trans (rfl))
        · skip
          have hE := ite_f hE c_16
          have ho := ite_fP ho c_16
          refine lv_aload_n X.1 X.2.1 dX12_isSo_39 rfl (lv_at hl 1 rfl) ?_
          refine g12_23 X I (k := 123) (by decide) rfl lf_X12_52 dX12_isSo_40 ?_
          refine lv_iconst (v := 4) X.1 X.2.1 dX12_isSo_43 (by decide) ?_
          refine lv_iload_n X.1 X.2.1 dX12_isSo_44 rfl (lv_at hl 2 rfl) ?_
          refine lv_imul X.1 X.2.1 dX12_isSo_45 ?_
          refine lv_iconst (v := 2) X.1 X.2.1 dX12_isSo_46 (by decide) ?_
          refine lv_iadd X.1 X.2.1 dX12_isSo_47 ?_
          refine lv_bipush (v := 30) X.1 X.2.1 dX12_isSo_48 (by decide) ?_
          refine lv_iload_n X.1 X.2.1 dX12_isSo_50 rfl (lv_at hl 0 rfl) ?_
          refine lv_iload_n X.1 X.2.1 dX12_isSo_51 rfl (lv_at hl 3 rfl) ?_
          refine lv_iadd X.1 X.2.1 dX12_isSo_52 ?_
          refine r_mmin X hl.1 lm_X12_301 ls_J9_min_7cf53 ln_J9 lc_J9_min_7cf53 (Nat.le_of_ble_eq_true rfl) (Nat.le_of_ble_eq_true rfl) (Nat.le_refl 0) (Nat.le_refl 0) dX12_isSo_53 ?_
          have ho21 := ho.1
          have ho := ho.2
          refine r_ast X I (k := 138) (n := 28) (by decide) rfl ho21 dX12_isSo_56 (fun H locs I => ?_)
          refine lv_aload_n X.1 X.2.1 dX12_isSo_57 rfl (lv_at hl 1 rfl) ?_
          refine lv_iconst (v := 1) X.1 X.2.1 dX12_isSo_58 (by decide) ?_
          refine lv_iconst (v := 0) X.1 X.2.1 dX12_isSo_59 (by decide) ?_
          have ho22 := ho.1
          have ho := ho.2
          refine r_ei I (r_runV X I pk_X12_layOrder (c12_layOrder l G _ _ true _ ho22) lm_X12_399 (by decide) (cl_12 rfl) rfl rfl rfl hl.1 rfl (Nat.le_of_ble_eq_true rfl) dX12_isSo_60 ⟨Nat.le_of_ble_eq_true rfl, Nat.le_of_ble_eq_true rfl⟩ ⟨Nat.le_refl 0, Nat.le_refl 0⟩) (fun H locs I => ?_)
          refine lv_istore (lv' := [(4, .int _), (3, .int _), (0, .ref _), (1, .int _), (2, .int _)]) X.1 X.2.1 dX12_isSo_63 hl (by decide) rfl (fun ls hl => ?_)
          refine lv_iconst (v := 1) X.1 X.2.1 dX12_isSo_65 (by decide) ?_
          refine lv_istore (lv' := [(5, .int _), (4, .int _), (3, .int _), (0, .ref _), (1, .int _), (2, .int _)]) X.1 X.2.1 dX12_isSo_66 hl (by decide) rfl (fun ls hl => ?_)
          refine lv_iconst (v := 0) X.1 X.2.1 dX12_isSo_68 (by decide) ?_
          refine lv_istore (lv' := [(6, .int _), (5, .int _), (4, .int _), (3, .int _), (0, .ref _), (1, .int _), (2, .int _)]) X.1 X.2.1 dX12_isSo_69 hl (by decide) rfl (fun ls hl => ?_)
          exact c12_isSo_c71 X _ _ _ _ _ _ _ true _ _ _ _ I (lv_sub hl [4, 5, 6, 3, 2, 1, 0] rfl) ho (fu1_lt _) (hE.trans (rfl))
    · skip
      have hE := ite_f hE (b2i_n c_13)
      have ho := ite_fP ho (b2i_n c_13)
      refine lv_iconst (v := 0) X.1 X.2.1 dX12_isSo_14 (by decide) ?_
      have h9 := hE
      exact r_zret X I rfl (e_i (congrArg b2i (pr_fst (a := false) h9)) (pr_snd h9) rfl) dX12_isSo_15
