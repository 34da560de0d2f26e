noncomputable def f12_isSign (x0 : Int32) : Bool := if x0 = (61 : Int32) then true else (if x0 = (60 : Int32) then true else (if x0 = (62 : Int32) then true else false))
set_option maxHeartbeats 4000000 in
set_option maxRecDepth 100000 in
theorem c12_isSign (l : Launch) (G : GT) (σ : SI) (τ : SL) (x0 : Int32) : Mc l yX12_isSign cX12_isSign 1 (some .boolean) 0 G [.int x0] σ τ (Qi G (Ei (b2i (f12_isSign x0)) σ τ)) := by
  refine m_start (by decide +kernel) (Nat.le_of_ble_eq_true rfl) rfl (fun p e s m args below meth c ls X I hl => ?_)
  have hl : lv_has ls 1 [(0, .int x0)] := hl
  obtain ⟨E, hE⟩ : ∃ E, E = (f12_isSign x0) := ⟨_, rfl⟩
  rw [← hE]
  refine lv_iload_n X.1 X.2.1 dX12_isSign_0 rfl (lv_at hl 0 rfl) ?_
  refine lv_bipush (v := 61) X.1 X.2.1 dX12_isSign_1 (by decide) ?_
  refine lv_icmp_eq (tgt := 18) X.1 X.2.1 dX12_isSign_3 (by decide) (fun c_1 => ?_) (fun c_1 => ?_)
  · skip
    have hE := ite_t hE c_1
    refine lv_iconst (v := 1) X.1 X.2.1 dX12_isSign_18 (by decide) ?_
    refine lv_goto (tgt := 23) X.1 X.2.1 dX12_isSign_19 (by decide) ?_
    have h9 := hE
    exact r_zret X I rfl (e_i (congrArg b2i h9).symm rfl rfl) dX12_isSign_23
  · skip
    have hE := ite_f hE c_1
    refine lv_iload_n X.1 X.2.1 dX12_isSign_6 rfl (lv_at hl 0 rfl) ?_
    refine lv_bipush (v := 60) X.1 X.2.1 dX12_isSign_7 (by decide) ?_
    refine lv_icmp_eq (tgt := 18) X.1 X.2.1 dX12_isSign_9 (by decide) (fun c_2 => ?_) (fun c_2 => ?_)
    · skip
      have hE := ite_t hE c_2
      refine lv_iconst (v := 1) X.1 X.2.1 dX12_isSign_18 (by decide) ?_
      refine lv_goto (tgt := 23) X.1 X.2.1 dX12_isSign_19 (by decide) ?_
      have h9 := hE
      exact r_zret X I rfl (e_i (congrArg b2i h9).symm rfl rfl) dX12_isSign_23
    · skip
      have hE := ite_f hE c_2
      refine lv_iload_n X.1 X.2.1 dX12_isSign_12 rfl (lv_at hl 0 rfl) ?_
      refine lv_bipush (v := 62) X.1 X.2.1 dX12_isSign_13 (by decide) ?_
      refine lv_icmp_ne (tgt := 22) X.1 X.2.1 dX12_isSign_15 (by decide) (fun c_3 => ?_) (fun c_3 => ?_)
      · skip
        have hE := ite_f hE c_3
        refine lv_iconst (v := 0) X.1 X.2.1 dX12_isSign_22 (by decide) ?_
        have h9 := hE
        exact r_zret X I rfl (e_i (congrArg b2i h9).symm rfl rfl) dX12_isSign_23
      · skip
        have hE := ite_t hE c_3
        refine lv_iconst (v := 1) X.1 X.2.1 dX12_isSign_18 (by decide) ?_
        refine lv_goto (tgt := 23) X.1 X.2.1 dX12_isSign_19 (by decide) ?_
        have h9 := hE
        exact r_zret X I rfl (e_i (congrArg b2i h9).symm rfl rfl) dX12_isSign_23
noncomputable def f12_compare (σ : SI) : SI := if (σ 123 4) = (-1 : Int32) then (let r4 := (f12_look σ); if (f12_isSign r4.1) = true then (let s5 := sp r4.2 123 3 ((r4.2 123 3) + (1 : Int32)); let s6 := (f12_sumR s5); if r4.1 = (61 : Int32) then (let s9 := (f12_put s6 (6 : Int32) (0 : Int32)); s9) else (if r4.1 = (60 : Int32) then (let s8 := (f12_put s6 (7 : Int32) (0 : Int32)); s8) else (let s7 := (f12_put s6 (8 : Int32) (0 : Int32)); s7))) else (let s10 := (f12_bad r4.2); s10)) else (if (f12_isSign (-1 : Int32)) = true then (let s0 := sp σ 123 3 ((σ 123 3) + (1 : Int32)); let s1 := (f12_sumR s0); let s2 := (f12_put s1 (8 : Int32) (0 : Int32)); s2) else (let s3 := (f12_bad σ); s3))
noncomputable def o12_compare (σ : SI) : Prop := if (σ 123 4) = (-1 : Int32) then ((o12_look σ) ∧ (let r4 := (f12_look σ); if (f12_isSign r4.1) = true then (let s5 := sp r4.2 123 3 ((r4.2 123 3) + (1 : Int32)); (o12_sumR s5) ∧ (let s6 := (f12_sumR s5); if r4.1 = (61 : Int32) then ((o12_put s6 (6 : Int32) (0 : Int32)) ∧ (let s9 := (f12_put s6 (6 : Int32) (0 : Int32)); True)) else (if r4.1 = (60 : Int32) then ((o12_put s6 (7 : Int32) (0 : Int32)) ∧ (let s8 := (f12_put s6 (7 : Int32) (0 : Int32)); True)) else ((o12_put s6 (8 : Int32) (0 : Int32)) ∧ (let s7 := (f12_put s6 (8 : Int32) (0 : Int32)); True))))) else (let s10 := (f12_bad r4.2); True))) else (if (f12_isSign (-1 : Int32)) = true then (let s0 := sp σ 123 3 ((σ 123 3) + (1 : Int32)); (o12_sumR s0) ∧ (let s1 := (f12_sumR s0); (o12_put s1 (8 : Int32) (0 : Int32)) ∧ (let s2 := (f12_put s1 (8 : Int32) (0 : Int32)); True))) else (let s3 := (f12_bad σ); True))
theorem w_f12_compare (σ : SI) (a : Nat) (h0 : a ≠ 123) (h1 : a ≠ 125) (h2 : a ≠ 126) (h3 : a ≠ 127) : (f12_compare σ) a = σ a := by
  unfold f12_compare
  exact (fr_ite (fr_ite (fr_ite ((w_f12_put _ _ _ a h1 h2 h3).trans ((w_f12_sumR _ a h0 h1 h2 h3).trans ((sp_n h0).trans (w_f12_look _ a h0)))) (fr_ite ((w_f12_put _ _ _ a h1 h2 h3).trans ((w_f12_sumR _ a h0 h1 h2 h3).trans ((sp_n h0).trans (w_f12_look _ a h0)))) ((w_f12_put _ _ _ a h1 h2 h3).trans ((w_f12_sumR _ a h0 h1 h2 h3).trans ((sp_n h0).trans (w_f12_look _ a h0)))))) ((w_f12_bad _ a h0).trans (w_f12_look _ a h0))) (fr_ite ((w_f12_put _ _ _ a h1 h2 h3).trans ((w_f12_sumR _ a h0 h1 h2 h3).trans (sp_n h0))) (w_f12_bad _ a h0)))
set_option maxHeartbeats 4000000 in
set_option maxRecDepth 100000 in
theorem c12_compare (l : Launch) (G : GT) (σ : SI) (τ : SL) (ho : o12_compare σ) : Mc l yX12_compare cX12_compare 2 none 45 G [.ref (G.2.1 123)] σ τ (Qv G (Ev (f12_compare σ) τ)) := by
  refine m_start (by decide +kernel) (Nat.le_of_ble_eq_true rfl) rfl (fun p e s m args below meth c ls X I hl => ?_)
  have hl : lv_has ls 2 [(0, .ref (G.2.1 123))] := hl
  obtain ⟨E, hE⟩ : ∃ E, E = (f12_compare σ) := ⟨_, rfl⟩
  rw [← hE]
  unfold o12_compare at ho
  refine lv_aload_n X.1 X.2.1 dX12_compare_0 rfl (lv_at hl 0 rfl) ?_
  refine g12_4 X I (k := 123) (by decide) rfl lf_X12_122 dX12_compare_1 ?_
  refine lv_iconst (v := (-1)) X.1 X.2.1 dX12_compare_4 (by decide) ?_
  refine lv_icmp_ne (tgt := 15) X.1 X.2.1 dX12_compare_5 (by decide) (fun c_1 => ?_) (fun c_1 => ?_)
  · skip
    have hE := ite_f hE c_1
    have ho := ite_fP ho c_1
    refine lv_iconst (v := (-1)) X.1 X.2.1 dX12_compare_15 (by decide) ?_
    refine lv_istore_n (lv' := [(1, .int _), (0, .ref _)]) X.1 X.2.1 dX12_compare_16 rfl hl (by decide) rfl (fun ls hl => ?_)
    refine lv_iload_n X.1 X.2.1 dX12_compare_17 rfl (lv_at hl 0 rfl) ?_
    refine r_ei I (r_runS X I pk_X12_isSign (c12_isSign l G _ _ _) lm_X12_168 rfl hl.1 rfl (Nat.le_of_ble_eq_true rfl) dX12_compare_18 ⟨Nat.le_of_ble_eq_true rfl, Nat.le_of_ble_eq_true rfl⟩ ⟨Nat.le_refl 0, Nat.le_refl 0⟩) (fun H locs I => ?_)
    refine lv_if_ne (tgt := 29) X.1 X.2.1 dX12_compare_21 (by decide) (fun c_2 => ?_) (fun c_2 => ?_)
    · skip
      have hE := ite_t hE (b2i_y c_2)
      have ho := ite_tP ho (b2i_y c_2)
      refine lv_aload_n X.1 X.2.1 dX12_compare_29 rfl (lv_at hl 1 rfl) ?_
      refine lv_dup X.1 X.2.1 dX12_compare_30 rfl ?_
      refine g12_3 X I (k := 123) (by decide) rfl lf_X12_115 dX12_compare_31 ?_
      refine lv_iconst (v := 1) X.1 X.2.1 dX12_compare_34 (by decide) ?_
      refine lv_iadd X.1 X.2.1 dX12_compare_35 ?_
      refine p12_3 X I (k := 123) (by decide) rfl lf_X12_115 dX12_compare_36 (fun H locs I => ?_)
      refine lv_aload_n X.1 X.2.1 dX12_compare_39 rfl (lv_at hl 1 rfl) ?_
      have ho1 := ho.1
      have ho := ho.2
      refine r_ev I (r_runV X I pk_X12_sum (c12_sumR l G _ _ ho1) lm_X12_155 (by decide) (cl_12 rfl) rfl rfl rfl hl.1 rfl (Nat.le_of_ble_eq_true rfl) dX12_compare_40 ⟨Nat.le_of_ble_eq_true rfl, Nat.le_of_ble_eq_true rfl⟩ ⟨Nat.le_refl 0, Nat.le_refl 0⟩) (fun H locs I => ?_)
      refine lv_aload_n X.1 X.2.1 dX12_compare_43 rfl (lv_at hl 1 rfl) ?_
      refine lv_iload_n X.1 X.2.1 dX12_compare_44 rfl (lv_at hl 0 rfl) ?_
      refine lv_bipush (v := 61) X.1 X.2.1 dX12_compare_45 (by decide) ?_
      refine lv_icmp_ne (tgt := 55) X.1 X.2.1 dX12_compare_47 (by decide) (fun c_3 => ?_) (fun c_3 => ?_)
      · skip
        refine lv_iload_n X.1 X.2.1 dX12_compare_55 rfl (lv_at hl 0 rfl) ?_
        refine lv_bipush (v := 60) X.1 X.2.1 dX12_compare_56 (by decide) ?_
        refine lv_icmp_ne (tgt := 66) X.1 X.2.1 dX12_compare_58 (by decide) (fun c_4 => ?_) (fun c_4 => ?_)
        · skip
          refine lv_bipush (v := 8) X.1 X.2.1 dX12_compare_66 (by decide) ?_
          refine lv_iconst (v := 0) X.1 X.2.1 dX12_compare_68 (by decide) ?_
          have ho2 := ho.1
          have ho := ho.2
          refine r_ev I (r_runV X I pk_X12_put (c12_put l G _ _ _ _ ho2) lm_X12_144 (by decide) (cl_12 rfl) rfl rfl rfl hl.1 rfl (Nat.le_of_ble_eq_true rfl) dX12_compare_69 ⟨Nat.le_of_ble_eq_true rfl, Nat.le_of_ble_eq_true rfl⟩ ⟨Nat.le_refl 0, Nat.le_refl 0⟩) (fun H locs I => ?_)
          have h9 := hE
          exact r_vret X I (e_v h9.symm rfl) dX12_compare_72
        · exact absurd c_4 (by decide)
      · exact absurd c_3 (by decide)
    · skip
      have hE := ite_f hE (b2i_n c_2)
      have ho := ite_fP ho (b2i_n c_2)
      refine lv_aload_n X.1 X.2.1 dX12_compare_24 rfl (lv_at hl 1 rfl) ?_
      refine r_ev I (r_runV X I pk_X12_bad (c12_bad l G _ _) lm_X12_131 (by decide) (cl_12 rfl) rfl rfl rfl hl.1 rfl (Nat.le_of_ble_eq_true rfl) dX12_compare_25 ⟨Nat.le_of_ble_eq_true rfl, Nat.le_of_ble_eq_true rfl⟩ ⟨Nat.le_refl 0, Nat.le_refl 0⟩) (fun H locs I => ?_)
      have h9 := hE
      exact r_vret X I (e_v h9.symm rfl) dX12_compare_28
  · skip
    have hE := ite_t hE c_1
    have ho := ite_tP ho c_1
    refine lv_aload_n X.1 X.2.1 dX12_compare_8 rfl (lv_at hl 0 rfl) ?_
    have ho3 := ho.1
    have ho := ho.2
    refine r_ei I (r_runV X I pk_X12_look (c12_look l G _ _ ho3) lm_X12_134 (by decide) (cl_12 rfl) rfl rfl rfl hl.1 rfl (Nat.le_of_ble_eq_true rfl) dX12_compare_9 ⟨Nat.le_of_ble_eq_true rfl, Nat.le_of_ble_eq_true rfl⟩ ⟨Nat.le_refl 0, Nat.le_refl 0⟩) (fun H locs I => ?_)
    refine lv_goto (tgt := 16) X.1 X.2.1 dX12_compare_12 (by decide) ?_
    refine lv_istore_n (lv' := [(1, .int _), (0, .ref _)]) X.1 X.2.1 dX12_compare_16 rfl hl (by decide) rfl (fun ls hl => ?_)
    refine lv_iload_n X.1 X.2.1 dX12_compare_17 rfl (lv_at hl 0 rfl) ?_
    refine r_ei I (r_runS X I pk_X12_isSign (c12_isSign l G _ _ _) lm_X12_168 rfl hl.1 rfl (Nat.le_of_ble_eq_true rfl) dX12_compare_18 ⟨Nat.le_of_ble_eq_true rfl, Nat.le_of_ble_eq_true rfl⟩ ⟨Nat.le_refl 0, Nat.le_refl 0⟩) (fun H locs I => ?_)
    refine lv_if_ne (tgt := 29) X.1 X.2.1 dX12_compare_21 (by decide) (fun c_5 => ?_) (fun c_5 => ?_)
    · skip
      have hE := ite_t hE (b2i_y c_5)
      have ho := ite_tP ho (b2i_y c_5)
      refine lv_aload_n X.1 X.2.1 dX12_compare_29 rfl (lv_at hl 1 rfl) ?_
      refine lv_dup X.1 X.2.1 dX12_compare_30 rfl ?_
      refine g12_3 X I (k := 123) (by decide) rfl lf_X12_115 dX12_compare_31 ?_
      refine lv_iconst (v := 1) X.1 X.2.1 dX12_compare_34 (by decide) ?_
      refine lv_iadd X.1 X.2.1 dX12_compare_35 ?_
      refine p12_3 X I (k := 123) (by decide) rfl lf_X12_115 dX12_compare_36 (fun H locs I => ?_)
      refine lv_aload_n X.1 X.2.1 dX12_compare_39 rfl (lv_at hl 1 rfl) ?_
      have ho4 := ho.1
      have ho := ho.2
      refine r_ev I (r_runV X I pk_X12_sum (c12_sumR l G _ _ ho4) lm_X12_155 (by decide) (cl_12 rfl) rfl rfl rfl hl.1 rfl (Nat.le_of_ble_eq_true rfl) dX12_compare_40 ⟨Nat.le_of_ble_eq_true rfl, Nat.le_of_ble_eq_true rfl⟩ ⟨Nat.le_refl 0, Nat.le_refl 0⟩) (fun H locs I => ?_)
      refine lv_aload_n X.1 X.2.1 dX12_compare_43 rfl (lv_at hl 1 rfl) ?_
      refine lv_iload_n X.1 X.2.1 dX12_compare_44 rfl (lv_at hl 0 rfl) ?_
      refine lv_bipush (v := 61) X.1 X.2.1 dX12_compare_45 (by decide) ?_
      refine lv_icmp_ne (tgt := 55) X.1 X.2.1 dX12_compare_47 (by decide) (fun c_6 => ?_) (fun c_6 => ?_)
      · skip
        have hE := ite_f hE c_6
        have ho := ite_fP ho c_6
        refine lv_iload_n X.1 X.2.1 dX12_compare_55 rfl (lv_at hl 0 rfl) ?_
        refine lv_bipush (v := 60) X.1 X.2.1 dX12_compare_56 (by decide) ?_
        refine lv_icmp_ne (tgt := 66) X.1 X.2.1 dX12_compare_58 (by decide) (fun c_7 => ?_) (fun c_7 => ?_)
        · skip
          have hE := ite_f hE c_7
          have ho := ite_fP ho c_7
          refine lv_bipush (v := 8) X.1 X.2.1 dX12_compare_66 (by decide) ?_
          refine lv_iconst (v := 0) X.1 X.2.1 dX12_compare_68 (by decide) ?_
          have ho5 := ho.1
          have ho := ho.2
          refine r_ev I (r_runV X I pk_X12_put (c12_put l G _ _ _ _ ho5) lm_X12_144 (by decide) (cl_12 rfl) rfl rfl rfl hl.1 rfl (Nat.le_of_ble_eq_true rfl) dX12_compare_69 ⟨Nat.le_of_ble_eq_true rfl, Nat.le_of_ble_eq_true rfl⟩ ⟨Nat.le_refl 0, Nat.le_refl 0⟩) (fun H locs I => ?_)
          have h9 := hE
          exact r_vret X I (e_v h9.symm rfl) dX12_compare_72
        · skip
          have hE := ite_t hE c_7
          have ho := ite_tP ho c_7
          refine lv_bipush (v := 7) X.1 X.2.1 dX12_compare_61 (by decide) ?_
          refine lv_goto (tgt := 68) X.1 X.2.1 dX12_compare_63 (by decide) ?_
          refine lv_iconst (v := 0) X.1 X.2.1 dX12_compare_68 (by decide) ?_
          have ho6 := ho.1
          have ho := ho.2
          refine r_ev I (r_runV X I pk_X12_put (c12_put l G _ _ _ _ ho6) lm_X12_144 (by decide) (cl_12 rfl) rfl rfl rfl hl.1 rfl (Nat.le_of_ble_eq_true rfl) dX12_compare_69 ⟨Nat.le_of_ble_eq_true rfl, Nat.le_of_ble_eq_true rfl⟩ ⟨Nat.le_refl 0, Nat.le_refl 0⟩) (fun H locs I => ?_)
          have h9 := hE
          exact r_vret X I (e_v h9.symm rfl) dX12_compare_72
      · skip
        have hE := ite_t hE c_6
        have ho := ite_tP ho c_6
        refine lv_bipush (v := 6) X.1 X.2.1 dX12_compare_50 (by decide) ?_
        refine lv_goto (tgt := 68) X.1 X.2.1 dX12_compare_52 (by decide) ?_
        refine lv_iconst (v := 0) X.1 X.2.1 dX12_compare_68 (by decide) ?_
        have ho7 := ho.1
        have ho := ho.2
        refine r_ev I (r_runV X I pk_X12_put (c12_put l G _ _ _ _ ho7) lm_X12_144 (by decide) (cl_12 rfl) rfl rfl rfl hl.1 rfl (Nat.le_of_ble_eq_true rfl) dX12_compare_69 ⟨Nat.le_of_ble_eq_true rfl, Nat.le_of_ble_eq_true rfl⟩ ⟨Nat.le_refl 0, Nat.le_refl 0⟩) (fun H locs I => ?_)
        have h9 := hE
        exact r_vret X I (e_v h9.symm rfl) dX12_compare_72
    · skip
      have hE := ite_f hE (b2i_n c_5)
      have ho := ite_fP ho (b2i_n c_5)
      refine lv_aload_n X.1 X.2.1 dX12_compare_24 rfl (lv_at hl 1 rfl) ?_
      refine r_ev I (r_runV X I pk_X12_bad (c12_bad l G _ _) lm_X12_131 (by decide) (cl_12 rfl) rfl rfl rfl hl.1 rfl (Nat.le_of_ble_eq_true rfl) dX12_compare_25 ⟨Nat.le_of_ble_eq_true rfl, Nat.le_of_ble_eq_true rfl⟩ ⟨Nat.le_refl 0, Nat.le_refl 0⟩) (fun H locs I => ?_)
      have h9 := hE
      exact r_vret X I (e_v h9.symm rfl) dX12_compare_28
noncomputable def f12_goOnAnd_c0 (U : SI → SI) : Nat → SI → SI
  | 0, σ => σ
  | fu + 1, σ => if (σ 123 4) = (-1 : Int32) then (let r0 := (f12_look σ); if r0.1 = (38 : Int32) then (let s1 := sp r0.2 123 3 ((r0.2 123 3) + (1 : Int32)); let s2 := (U s1); let s3 := (f12_put s2 (10 : Int32) (0 : Int32)); (f12_goOnAnd_c0 U fu s3)) else r0.2) else σ
noncomputable def o12_goOnAnd_c0 (U : SI → SI) (oU : SI → Prop) : Nat → SI → Prop
  | 0, _ => False
  | fu + 1, σ => if (σ 123 4) = (-1 : Int32) then ((o12_look σ) ∧ (let r0 := (f12_look σ); if r0.1 = (38 : Int32) then (let s1 := sp r0.2 123 3 ((r0.2 123 3) + (1 : Int32)); (oU s1) ∧ (let s2 := (U s1); (o12_put s2 (10 : Int32) (0 : Int32)) ∧ (let s3 := (f12_put s2 (10 : Int32) (0 : Int32)); (o12_goOnAnd_c0 U oU fu s3)))) else True)) else True
noncomputable def f12_goOnAnd (U : SI → SI) (σ : SI) : SI := (f12_goOnAnd_c0 U (fu1 ((Int32.toInt (σ 123 2) - Int32.toInt (σ 123 3)).toNat + 1)) σ)
noncomputable def o12_goOnAnd (U : SI → SI) (oU : SI → Prop) (σ : SI) : Prop := (o12_goOnAnd_c0 U oU (fu1 ((Int32.toInt (σ 123 2) - Int32.toInt (σ 123 3)).toNat + 1)) σ)
theorem w_f12_goOnAnd_c0 {U : SI → SI} (hUf : ∀ (σ : SI)  (b : Nat), b ≠ 123 → b ≠ 125 → b ≠ 126 → b ≠ 127 → (U σ ) b = σ b) (a : Nat) (h0 : a ≠ 123) (h1 : a ≠ 125) (h2 : a ≠ 126) (h3 : a ≠ 127) : ∀ (fu : Nat) (σ : SI), (f12_goOnAnd_c0 U fu σ) a = σ a := by
  intro fu
  induction fu with
  | zero => intro σ; exact rfl
  | succ fu ih =>
    intro σ
    unfold f12_goOnAnd_c0
    exact (fr_ite (fr_ite ((ih _).trans ((w_f12_put _ _ _ a h1 h2 h3).trans ((hUf _ a h0 h1 h2 h3).trans ((sp_n h0).trans (w_f12_look _ a h0))))) (w_f12_look _ a h0)) rfl)
theorem w_f12_goOnAnd {U : SI → SI} (hUf : ∀ (σ : SI)  (b : Nat), b ≠ 123 → b ≠ 125 → b ≠ 126 → b ≠ 127 → (U σ ) b = σ b) (σ : SI) (a : Nat) (h0 : a ≠ 123) (h1 : a ≠ 125) (h2 : a ≠ 126) (h3 : a ≠ 127) : (f12_goOnAnd U σ) a = σ a := by
  unfold f12_goOnAnd
  exact (w_f12_goOnAnd_c0 hUf a h0 h1 h2 h3 _ _)
set_option maxHeartbeats 4000000 in
set_option maxRecDepth 100000 in
theorem c12_goOnAnd_c0 {l : Launch} {p : Program} {e : Env} {s : State} {m : MethodId} {args : Array Value} {below : List Frame} {meth : Method} {c : Code} {G : GT} (X : CX p s m args meth c cX12_goOnAnd RX12 1 none G) {U : SI → SI} {oU : SI → Prop} {D : Nat} (hU : ∀ (σ : SI) (τ : SL) , oU σ  → Mc l yX12_unit cX12_unit 2 none (60 + 4 * D) G [.ref (G.2.1 123)] σ τ (Qv G (Ev (U σ ) τ))) {E : SI} (τ : SL) : ∀ (fu : Nat) (σ : SI) (H : Heap) (locs : List Loc) (ls : Array Slot), IX G s H locs σ τ → lv_has ls 1 [(0, .ref (G.2.1 123))] → (o12_goOnAnd_c0 U oU fu σ) → E = (f12_goOnAnd_c0 U fu σ) → W p l e (rmN (60 + 4 * D + 1)) s m args below meth c H locs 0 0 (MQ below ((Qv G (Ev E τ)) s.heap.size) args s 0 0 (AW G s.heap.size)) (F0 m 0 ls []) := by
  intro fu
  induction fu with
  | zero =>
    intro σ H locs ls I hl  ho hE
    unfold o12_goOnAnd_c0 at ho
    exact ho.elim
  | succ fu ih =>
    intro σ H locs ls I hl  ho hE
    unfold o12_goOnAnd_c0 at ho
    refine lv_aload_n X.1 X.2.1 dX12_goOnAnd_0 rfl (lv_at hl 0 rfl) ?_
    refine g12_4 X I (k := 123) (by decide) rfl lf_X12_122 dX12_goOnAnd_1 ?_
    refine lv_iconst (v := (-1)) X.1 X.2.1 dX12_goOnAnd_4 (by decide) ?_
    refine lv_icmp_ne (tgt := 41) X.1 X.2.1 dX12_goOnAnd_5 (by decide) (fun c_1 => ?_) (fun c_1 => ?_)
    · skip
      have hE := ite_f hE c_1
      have ho := ite_fP ho c_1
      have h9 := hE
      exact r_vret X I (e_v h9.symm rfl) dX12_goOnAnd_41
    · skip
      have hE := ite_t hE c_1
      have ho := ite_tP ho c_1
      refine lv_aload_n X.1 X.2.1 dX12_goOnAnd_8 rfl (lv_at hl 0 rfl) ?_
      have ho1 := ho.1
      have ho := ho.2
      refine r_ei I (r_runV X I pk_X12_look (c12_look l G _ _ ho1) lm_X12_134 (by decide) (cl_12 rfl) rfl rfl rfl hl.1 rfl (Nat.le_of_ble_eq_true rfl) dX12_goOnAnd_9 (hr_le (by omega) (by decide)) ⟨Nat.le_refl 0, Nat.le_refl 0⟩) (fun H locs I => ?_)
      refine lv_bipush (v := 38) X.1 X.2.1 dX12_goOnAnd_12 (by decide) ?_
      refine lv_icmp_ne (tgt := 41) X.1 X.2.1 dX12_goOnAnd_14 (by decide) (fun c_2 => ?_) (fun c_2 => ?_)
      · skip
        have hE := ite_f hE c_2
        have ho := ite_fP ho c_2
        have h9 := hE
        exact r_vret X I (e_v h9.symm rfl) dX12_goOnAnd_41
      · skip
        have hE := ite_t hE c_2
        have ho := ite_tP ho c_2
        refine lv_aload_n X.1 X.2.1 dX12_goOnAnd_17 rfl (lv_at hl 0 rfl) ?_
        refine lv_dup X.1 X.2.1 dX12_goOnAnd_18 rfl ?_
        refine g12_3 X I (k := 123) (by decide) rfl lf_X12_115 dX12_goOnAnd_19 ?_
        refine lv_iconst (v := 1) X.1 X.2.1 dX12_goOnAnd_22 (by decide) ?_
        refine lv_iadd X.1 X.2.1 dX12_goOnAnd_23 ?_
        refine p12_3 X I (k := 123) (by decide) rfl lf_X12_115 dX12_goOnAnd_24 (fun H locs I => ?_)
        refine lv_aload_n X.1 X.2.1 dX12_goOnAnd_27 rfl (lv_at hl 0 rfl) ?_
        have ho2 := ho.1
        have ho := ho.2
        refine r_ev I (r_runV X I pk_X12_unit (hU _ _ ho2) lm_X12_171 (by decide) (cl_12 rfl) rfl rfl rfl hl.1 rfl (Nat.le_of_ble_eq_true rfl) dX12_goOnAnd_28 (hr_le (by omega) (by decide)) ⟨Nat.le_refl 0, Nat.le_refl 0⟩) (fun H locs I => ?_)
        refine lv_aload_n X.1 X.2.1 dX12_goOnAnd_31 rfl (lv_at hl 0 rfl) ?_
        refine lv_bipush (v := 10) X.1 X.2.1 dX12_goOnAnd_32 (by decide) ?_
        refine lv_iconst (v := 0) X.1 X.2.1 dX12_goOnAnd_34 (by decide) ?_
        have ho3 := ho.1
        have ho := ho.2
        refine r_ev I (r_runV X I pk_X12_put (c12_put l G _ _ _ _ ho3) lm_X12_144 (by decide) (cl_12 rfl) rfl rfl rfl hl.1 rfl (Nat.le_of_ble_eq_true rfl) dX12_goOnAnd_35 (hr_le (by omega) (by decide)) ⟨Nat.le_refl 0, Nat.le_refl 0⟩) (fun H locs I => ?_)
        refine lv_goto (tgt := 0) X.1 X.2.1 dX12_goOnAnd_38 (by decide) ?_
        exact ih _ _ _ _ I (lv_sub hl [0] rfl) ho (hE.trans (rfl))
set_option maxHeartbeats 4000000 in
set_option maxRecDepth 100000 in
theorem c12_goOnAnd (l : Launch) (G : GT) {U : SI → SI} {oU : SI → Prop} {D : Nat} (hU : ∀ (σ : SI) (τ : SL) , oU σ  → Mc l yX12_unit cX12_unit 2 none (60 + 4 * D) G [.ref (G.2.1 123)] σ τ (Qv G (Ev (U σ ) τ))) (σ : SI) (τ : SL) (ho : o12_goOnAnd U oU σ) : Mc l yX12_goOnAnd cX12_goOnAnd 1 none (60 + 4 * D + 1) G [.ref (G.2.1 123)] σ τ (Qv G (Ev (f12_goOnAnd U σ) τ)) := by
  refine m_start (by decide +kernel) (Nat.le_of_ble_eq_true rfl) rfl (fun p e s m args below meth c ls X I hl => ?_)
  have hl : lv_has ls 1 [(0, .ref (G.2.1 123))] := hl
  obtain ⟨E, hE⟩ : ∃ E, E = (f12_goOnAnd U σ) := ⟨_, rfl⟩
  rw [← hE]
  unfold o12_goOnAnd at ho
  exact c12_goOnAnd_c0 X hU _  _ _ _ _ _ I (lv_sub hl [0] rfl) ho (hE.trans (rfl))
noncomputable def f12_goOnOr_c0 (A : SI → SI) (U : SI → SI) : Nat → SI → SI
  | 0, σ => σ
  | fu + 1, σ => if (σ 123 4) = (-1 : Int32) then (let r0 := (f12_look σ); if r0.1 = (124 : Int32) then (let s1 := sp r0.2 123 3 ((r0.2 123 3) + (1 : Int32)); let s2 := (U s1); let s3 := (A s2); let s4 := (f12_put s3 (11 : Int32) (0 : Int32)); (f12_goOnOr_c0 A U fu s4)) else r0.2) else σ
noncomputable def o12_goOnOr_c0 (A : SI → SI) (U : SI → SI) (oU : SI → Prop) (oA : SI → Prop) : Nat → SI → Prop
  | 0, _ => False
  | fu + 1, σ => if (σ 123 4) = (-1 : Int32) then ((o12_look σ) ∧ (let r0 := (f12_look σ); if r0.1 = (124 : Int32) then (let s1 := sp r0.2 123 3 ((r0.2 123 3) + (1 : Int32)); (oU s1) ∧ (let s2 := (U s1); (oA s2) ∧ (let s3 := (A s2); (o12_put s3 (11 : Int32) (0 : Int32)) ∧ (let s4 := (f12_put s3 (11 : Int32) (0 : Int32)); (o12_goOnOr_c0 A U oU oA fu s4))))) else True)) else True
noncomputable def f12_goOnOr (A : SI → SI) (U : SI → SI) (σ : SI) : SI := (f12_goOnOr_c0 A U (fu1 ((Int32.toInt (σ 123 2) - Int32.toInt (σ 123 3)).toNat + 1)) σ)
noncomputable def o12_goOnOr (A : SI → SI) (U : SI → SI) (oU : SI → Prop) (oA : SI → Prop) (σ : SI) : Prop := (o12_goOnOr_c0 A U oU oA (fu1 ((Int32.toInt (σ 123 2) - Int32.toInt (σ 123 3)).toNat + 1)) σ)
theorem w_f12_goOnOr_c0 {A : SI → SI} {U : SI → SI} (hUf : ∀ (σ : SI)  (b : Nat), b ≠ 123 → b ≠ 125 → b ≠ 126 → b ≠ 127 → (U σ ) b = σ b) (hAf : ∀ (σ : SI)  (b : Nat), b ≠ 123 → b ≠ 125 → b ≠ 126 → b ≠ 127 → (A σ ) b = σ b) (a : Nat) (h0 : a ≠ 123) (h1 : a ≠ 125) (h2 : a ≠ 126) (h3 : a ≠ 127) : ∀ (fu : Nat) (σ : SI), (f12_goOnOr_c0 A U fu σ) a = σ a := by
  intro fu
  induction fu with
  | zero => intro σ; exact rfl
  | succ fu ih =>
    intro σ
    unfold f12_goOnOr_c0
    exact (fr_ite (fr_ite ((ih _).trans ((w_f12_put _ _ _ a h1 h2 h3).trans ((hAf _ a h0 h1 h2 h3).trans ((hUf _ a h0 h1 h2 h3).trans ((sp_n h0).trans (w_f12_look _ a h0)))))) (w_f12_look _ a h0)) rfl)
theorem w_f12_goOnOr {A : SI → SI} {U : SI → SI} (hUf : ∀ (σ : SI)  (b : Nat), b ≠ 123 → b ≠ 125 → b ≠ 126 → b ≠ 127 → (U σ ) b = σ b) (hAf : ∀ (σ : SI)  (b : Nat), b ≠ 123 → b ≠ 125 → b ≠ 126 → b ≠ 127 → (A σ ) b = σ b) (σ : SI) (a : Nat) (h0 : a ≠ 123) (h1 : a ≠ 125) (h2 : a ≠ 126) (h3 : a ≠ 127) : (f12_goOnOr A U σ) a = σ a := by
  unfold f12_goOnOr
  exact (w_f12_goOnOr_c0 hUf hAf a h0 h1 h2 h3 _ _)
set_option maxHeartbeats 4000000 in
set_option maxRecDepth 100000 in
theorem c12_goOnOr_c0 {l : Launch} {p : Program} {e : Env} {s : State} {m : MethodId} {args : Array Value} {below : List Frame} {meth : Method} {c : Code} {G : GT} (X : CX p s m args meth c cX12_goOnOr RX12 1 none G) {U : SI → SI} {A : SI → SI} {oU : SI → Prop} {oA : SI → Prop} {D : Nat} (hU : ∀ (σ : SI) (τ : SL) , oU σ  → Mc l yX12_unit cX12_unit 2 none (60 + 4 * D) G [.ref (G.2.1 123)] σ τ (Qv G (Ev (U σ ) τ))) (hA : ∀ (σ : SI) (τ : SL) , oA σ  → Mc l yX12_goOnAnd cX12_goOnAnd 1 none (60 + 4 * D + 1) G [.ref (G.2.1 123)] σ τ (Qv G (Ev (A σ ) τ))) {E : SI} (τ : SL) : ∀ (fu : Nat) (σ : SI) (H : Heap) (locs : List Loc) (ls : Array Slot), IX G s H locs σ τ → lv_has ls 1 [(0, .ref (G.2.1 123))] → (o12_goOnOr_c0 A U oU oA fu σ) → E = (f12_goOnOr_c0 A U fu σ) → W p l e (rmN (60 + 4 * D + 2)) s m args below meth c H locs 0 0 (MQ below ((Qv G (Ev E τ)) s.heap.size) args s 0 0 (AW G s.heap.size)) (F0 m 0 ls []) := by
  intro fu
  induction fu with
  | zero =>
    intro σ H locs ls I hl  ho hE
    unfold o12_goOnOr_c0 at ho
    exact ho.elim
  | succ fu ih =>
    intro σ H locs ls I hl  ho hE
    unfold o12_goOnOr_c0 at ho
    refine lv_aload_n X.1 X.2.1 dX12_goOnOr_0 rfl (lv_at hl 0 rfl) ?_
    refine g12_4 X I (k := 123) (by decide) rfl lf_X12_122 dX12_goOnOr_1 ?_
    refine lv_iconst (v := (-1)) X.1 X.2.1 dX12_goOnOr_4 (by decide) ?_
    refine lv_icmp_ne (tgt := 45) X.1 X.2.1 dX12_goOnOr_5 (by decide) (fun c_1 => ?_) (fun c_1 => ?_)
    · skip
      have hE := ite_f hE c_1
      have ho := ite_fP ho c_1
      have h9 := hE
      exact r_vret X I (e_v h9.symm rfl) dX12_goOnOr_45
    · skip
      have hE := ite_t hE c_1
      have ho := ite_tP ho c_1
      refine lv_aload_n X.1 X.2.1 dX12_goOnOr_8 rfl (lv_at hl 0 rfl) ?_
      have ho1 := ho.1
      have ho := ho.2
      refine r_ei I (r_runV X I pk_X12_look (c12_look l G _ _ ho1) lm_X12_134 (by decide) (cl_12 rfl) rfl rfl rfl hl.1 rfl (Nat.le_of_ble_eq_true rfl) dX12_goOnOr_9 (hr_le (by omega) (by decide)) ⟨Nat.le_refl 0, Nat.le_refl 0⟩) (fun H locs I => ?_)
      refine lv_bipush (v := 124) X.1 X.2.1 dX12_goOnOr_12 (by decide) ?_
      refine lv_icmp_ne (tgt := 45) X.1 X.2.1 dX12_goOnOr_14 (by decide) (fun c_2 => ?_) (fun c_2 => ?_)
      · skip
        have hE := ite_f hE c_2
        have ho := ite_fP ho c_2
        have h9 := hE
        exact r_vret X I (e_v h9.symm rfl) dX12_goOnOr_45
      · skip
        have hE := ite_t hE c_2
        have ho := ite_tP ho c_2
        refine lv_aload_n X.1 X.2.1 dX12_goOnOr_17 rfl (lv_at hl 0 rfl) ?_
        refine lv_dup X.1 X.2.1 dX12_goOnOr_18 rfl ?_
        refine g12_3 X I (k := 123) (by decide) rfl lf_X12_115 dX12_goOnOr_19 ?_
        refine lv_iconst (v := 1) X.1 X.2.1 dX12_goOnOr_22 (by decide) ?_
        refine lv_iadd X.1 X.2.1 dX12_goOnOr_23 ?_
        refine p12_3 X I (k := 123) (by decide) rfl lf_X12_115 dX12_goOnOr_24 (fun H locs I => ?_)
        refine lv_aload_n X.1 X.2.1 dX12_goOnOr_27 rfl (lv_at hl 0 rfl) ?_
        have ho2 := ho.1
        have ho := ho.2
        refine r_ev I (r_runV X I pk_X12_unit (hU _ _ ho2) lm_X12_171 (by decide) (cl_12 rfl) rfl rfl rfl hl.1 rfl (Nat.le_of_ble_eq_true rfl) dX12_goOnOr_28 (hr_le (by omega) (by decide)) ⟨Nat.le_refl 0, Nat.le_refl 0⟩) (fun H locs I => ?_)
        refine lv_aload_n X.1 X.2.1 dX12_goOnOr_31 rfl (lv_at hl 0 rfl) ?_
        have ho3 := ho.1
        have ho := ho.2
        refine r_ev I (r_runV X I pk_X12_goOnAnd (hA _ _ ho3) lm_X12_180 (by decide) (cl_12 rfl) rfl rfl rfl hl.1 rfl (Nat.le_of_ble_eq_true rfl) dX12_goOnOr_32 (hr_le (by omega) (by decide)) ⟨Nat.le_refl 0, Nat.le_refl 0⟩) (fun H locs I => ?_)
        refine lv_aload_n X.1 X.2.1 dX12_goOnOr_35 rfl (lv_at hl 0 rfl) ?_
        refine lv_bipush (v := 11) X.1 X.2.1 dX12_goOnOr_36 (by decide) ?_
        refine lv_iconst (v := 0) X.1 X.2.1 dX12_goOnOr_38 (by decide) ?_
        have ho4 := ho.1
        have ho := ho.2
        refine r_ev I (r_runV X I pk_X12_put (c12_put l G _ _ _ _ ho4) lm_X12_144 (by decide) (cl_12 rfl) rfl rfl rfl hl.1 rfl (Nat.le_of_ble_eq_true rfl) dX12_goOnOr_39 (hr_le (by omega) (by decide)) ⟨Nat.le_refl 0, Nat.le_refl 0⟩) (fun H locs I => ?_)
        refine lv_goto (tgt := 0) X.1 X.2.1 dX12_goOnOr_42 (by decide) ?_
        exact ih _ _ _ _ I (lv_sub hl [0] rfl) ho (hE.trans (rfl))
set_option maxHeartbeats 4000000 in
set_option maxRecDepth 100000 in
theorem c12_goOnOr (l : Launch) (G : GT) {U : SI → SI} {A : SI → SI} {oU : SI → Prop} {oA : SI → Prop} {D : Nat} (hU : ∀ (σ : SI) (τ : SL) , oU σ  → Mc l yX12_unit cX12_unit 2 none (60 + 4 * D) G [.ref (G.2.1 123)] σ τ (Qv G (Ev (U σ ) τ))) (hA : ∀ (σ : SI) (τ : SL) , oA σ  → Mc l yX12_goOnAnd cX12_goOnAnd 1 none (60 + 4 * D + 1) G [.ref (G.2.1 123)] σ τ (Qv G (Ev (A σ ) τ))) (σ : SI) (τ : SL) (ho : o12_goOnOr A U oU oA σ) : Mc l yX12_goOnOr cX12_goOnOr 1 none (60 + 4 * D + 2) G [.ref (G.2.1 123)] σ τ (Qv G (Ev (f12_goOnOr A U σ) τ)) := by
  refine m_start (by decide +kernel) (Nat.le_of_ble_eq_true rfl) rfl (fun p e s m args below meth c ls X I hl => ?_)
  have hl : lv_has ls 1 [(0, .ref (G.2.1 123))] := hl
  obtain ⟨E, hE⟩ : ∃ E, E = (f12_goOnOr A U σ) := ⟨_, rfl⟩
  rw [← hE]
  unfold o12_goOnOr at ho
  exact c12_goOnOr_c0 X hU hA _  _ _ _ _ _ I (lv_sub hl [0] rfl) ho (hE.trans (rfl))
